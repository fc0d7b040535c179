abbrev rm_X4_copyFrom : Room := { frames := 2, cells := 0, slots := 0, locals := 39 }
def f_X4_copyFrom (M : SR) (O : SR)  : SR := O
set_option maxHeartbeats 4000000 in
set_option maxRecDepth 100000 in
theorem c_X4_copyFrom (l : Launch) (dC : Nat → ClassId) (dI : Nat → Nat → Nat) (cI cC cS : ClassId) (a : Nat → Nat) (b : Nat → Nat) (M : SR) (O : SR) (sz : Nat)   : Met l yX4_copyFrom wsX4_copyFrom rm_X4_copyFrom (PcG (dC, dI) (tyL cI cC cS) (cSt a cI M ++ cSt b cI O) sz [.ref (a 0), .ref (b 0)]) (va_Qv (fun (u : SR) => u = f_X4_copyFrom M O) (fun u U => va_P (dC, dI) vwCl (cSt a cI u ++ cSt b cI O) U.heap ∧ va_D (va_A (cSt a cI M ++ cSt b cI O) sz) (cSt a cI u ++ cSt b cI O)) (va_A (cSt a cI M ++ cSt b cI O) sz)) 0 0 (va_A (cSt a cI M ++ cSt b cI O) sz) := by
  refine Met.ofW (cc := cX4_copyFrom) (maxL := 2) (ret := none) (by decide) rfl ?_
  intro p e s m args below meth c s₁ B hml hv
  obtain ⟨rfl, hsz, hP, hK, hD0, hN⟩ := hv
  have hx := B.exec
  have hb := B.bytes
  have hr := B.returns
  have hts := atoms_spec (ws := wsX4_copyFrom) B.pre
  have hown : s.vm.findClass RX4 = some m.cls := findClass_of_methodNamed B.named
  have hlocks := B.notSynchronized
  subst hsz
  have hD := hD0.self (sz := s.heap.size)
  have hA : ∀ q : Nat, s.heap.size ≤ q → (va_A (cSt a cI M ++ cSt b cI O) s.heap.size) q := fun q h => Or.inr h
  have hS : va_S (va_A (cSt a cI M ++ cSt b cI O) s.heap.size) s.heap s.heap [] := va_S.rf
  have hin4 : ∀ w ∈ wsX40, w ∈ wsX4_copyFrom := fun _ h => List.mem_cons_of_mem _ (List.mem_append_left _ (List.mem_append_right _ h))
  have hl := lv_entry [.ref (a 0), .ref (b 0)] (n := 2) (Nat.le_of_ble_eq_true rfl)
  rw [lg_entry_eq]
  generalize (lg_sl [.ref (a 0), .ref (b 0)] ++ List.replicate (2 - (lg_sl [.ref (a 0), .ref (b 0)]).length) Slot.unset).toArray = ls at hl ⊢
  have hl : lv_has ls 2 [(0, .ref (a 0)), (1, .ref (b 0))] := hl
  refine lv_aload_n hx hb dX4_copyFrom_0 rfl (lv_at hl 1 rfl) ?_
  refine va_get (D := (dC, dI)) (ci := 4) (v := .ref (b 1)) (C := RX4) (T := TX4) (N := 18) hx hb hts hin4 hown hK hP 12 rfl rfl 0 (by decide) (hts (.fieldLink RX4 9 "FeedDesk$State" "input" "[I") (List.mem_of_getElem? (i := 1) rfl)) (fun _ h9 => h9) rfl dX4_copyFrom_1 ?_
  refine lv_iconst (v := 0) hx hb dX4_copyFrom_4 (by decide) ?_
  refine lv_aload_n hx hb dX4_copyFrom_5 rfl (lv_at hl 0 rfl) ?_
  refine va_get (D := (dC, dI)) (ci := 4) (v := .ref (a 1)) (C := RX4) (T := TX4) (N := 18) hx hb hts hin4 hown hK hP 0 rfl rfl 0 (by decide) (hts (.fieldLink RX4 9 "FeedDesk$State" "input" "[I") (List.mem_of_getElem? (i := 1) rfl)) (fun _ h9 => h9) rfl dX4_copyFrom_6 ?_
  refine lv_iconst (v := 0) hx hb dX4_copyFrom_9 (by decide) ?_
  refine lv_bipush (v := 12) hx hb dX4_copyFrom_10 (by decide) ?_
  refine va_copyT (h := O 0) (f := O 0) (g := M 0) hx hb (hml.trans hl.1.symm) hown (hts (.methodLink RX4 46 arraycopyName) (List.mem_of_getElem? (i := 2) rfl)) (hts (.native arraycopyName) (List.mem_of_getElem? (i := 3) rfl)) (hts (.static arraycopyName) (List.mem_of_getElem? (i := 4) rfl)) (hts (.initialized "java/lang/System") (List.mem_of_getElem? (i := 5) rfl)) hK hP hD hS 13 1 0 0 rfl rfl rfl rfl rfl (by decide) (by decide) (by decide) (by decide +kernel) (by decide +kernel) (fun _ _ => rfl) (fun q hq => cp_full hq) (Nat.le_of_ble_eq_true rfl) (Nat.le_of_ble_eq_true rfl) dX4_copyFrom_12 (fun H1 locs hP hD hS => ?_)
  have hP : va_P (dC, dI) vwCl (cSt a cI (sR M 0 (O 0)) ++ cSt b cI O) H1 := hP
  have hD : va_D (va_A (cSt a cI M ++ cSt b cI O) s.heap.size) (cSt a cI (sR M 0 (O 0)) ++ cSt b cI O) := hD
  obtain ⟨Mn2, eMn2⟩ : ∃ z : SR, z = sR M 0 (O 0) := ⟨_, rfl⟩
  rw [← eMn2] at hP hD
  refine lv_aload_n hx hb dX4_copyFrom_15 rfl (lv_at hl 1 rfl) ?_
  refine va_get (D := (dC, dI)) (ci := 4) (v := .ref (b 2)) (C := RX4) (T := TX4) (N := 18) hx hb hts hin4 hown hK hP 12 rfl rfl 1 (by decide) (hts (.fieldLink RX4 15 "FeedDesk$State" "sliders" "[I") (List.mem_of_getElem? (i := 6) rfl)) (fun _ h9 => h9) rfl dX4_copyFrom_16 ?_
  refine lv_iconst (v := 0) hx hb dX4_copyFrom_19 (by decide) ?_
  refine lv_aload_n hx hb dX4_copyFrom_20 rfl (lv_at hl 0 rfl) ?_
  refine va_get (D := (dC, dI)) (ci := 4) (v := .ref (a 2)) (C := RX4) (T := TX4) (N := 18) hx hb hts hin4 hown hK hP 0 rfl rfl 1 (by decide) (hts (.fieldLink RX4 15 "FeedDesk$State" "sliders" "[I") (List.mem_of_getElem? (i := 6) rfl)) (fun _ h9 => h9) rfl dX4_copyFrom_21 ?_
  refine lv_iconst (v := 0) hx hb dX4_copyFrom_24 (by decide) ?_
  refine lv_bipush (v := 16) hx hb dX4_copyFrom_25 (by decide) ?_
  refine va_copyT (h := O 1) (f := O 1) (g := Mn2 1) hx hb (hml.trans hl.1.symm) hown (hts (.methodLink RX4 46 arraycopyName) (List.mem_of_getElem? (i := 2) rfl)) (hts (.native arraycopyName) (List.mem_of_getElem? (i := 3) rfl)) (hts (.static arraycopyName) (List.mem_of_getElem? (i := 4) rfl)) (hts (.initialized "java/lang/System") (List.mem_of_getElem? (i := 5) rfl)) hK hP hD hS 14 2 0 0 rfl rfl rfl rfl rfl (by decide) (by decide) (by decide) (by decide +kernel) (by decide +kernel) (fun _ _ => rfl) (fun q hq => cp_full hq) (Nat.le_of_ble_eq_true rfl) (Nat.le_of_ble_eq_true rfl) dX4_copyFrom_27 (fun H3 locs hP hD hS => ?_)
  have hP : va_P (dC, dI) vwCl (cSt a cI (sR Mn2 1 (O 1)) ++ cSt b cI O) H3 := hP
  have hD : va_D (va_A (cSt a cI M ++ cSt b cI O) s.heap.size) (cSt a cI (sR Mn2 1 (O 1)) ++ cSt b cI O) := hD
  obtain ⟨Mn4, eMn4⟩ : ∃ z : SR, z = sR Mn2 1 (O 1) := ⟨_, rfl⟩
  rw [← eMn4] at hP hD
  refine lv_aload_n hx hb dX4_copyFrom_30 rfl (lv_at hl 1 rfl) ?_
  refine va_get (D := (dC, dI)) (ci := 4) (v := .ref (b 3)) (C := RX4) (T := TX4) (N := 18) hx hb hts hin4 hown hK hP 12 rfl rfl 2 (by decide) (hts (.fieldLink RX4 18 "FeedDesk$State" "groups" "[I") (List.mem_of_getElem? (i := 7) rfl)) (fun _ h9 => h9) rfl dX4_copyFrom_31 ?_
  refine lv_iconst (v := 0) hx hb dX4_copyFrom_34 (by decide) ?_
  refine lv_aload_n hx hb dX4_copyFrom_35 rfl (lv_at hl 0 rfl) ?_
  refine va_get (D := (dC, dI)) (ci := 4) (v := .ref (a 3)) (C := RX4) (T := TX4) (N := 18) hx hb hts hin4 hown hK hP 0 rfl rfl 2 (by decide) (hts (.fieldLink RX4 18 "FeedDesk$State" "groups" "[I") (List.mem_of_getElem? (i := 7) rfl)) (fun _ h9 => h9) rfl dX4_copyFrom_36 ?_
  refine lv_iconst (v := 0) hx hb dX4_copyFrom_39 (by decide) ?_
  refine lv_bipush (v := 12) hx hb dX4_copyFrom_40 (by decide) ?_
  refine va_copyT (h := O 2) (f := O 2) (g := Mn4 2) hx hb (hml.trans hl.1.symm) hown (hts (.methodLink RX4 46 arraycopyName) (List.mem_of_getElem? (i := 2) rfl)) (hts (.native arraycopyName) (List.mem_of_getElem? (i := 3) rfl)) (hts (.static arraycopyName) (List.mem_of_getElem? (i := 4) rfl)) (hts (.initialized "java/lang/System") (List.mem_of_getElem? (i := 5) rfl)) hK hP hD hS 15 3 0 0 rfl rfl rfl rfl rfl (by decide) (by decide) (by decide) (by decide +kernel) (by decide +kernel) (fun _ _ => rfl) (fun q hq => cp_full hq) (Nat.le_of_ble_eq_true rfl) (Nat.le_of_ble_eq_true rfl) dX4_copyFrom_42 (fun H5 locs hP hD hS => ?_)
  have hP : va_P (dC, dI) vwCl (cSt a cI (sR Mn4 2 (O 2)) ++ cSt b cI O) H5 := hP
  have hD : va_D (va_A (cSt a cI M ++ cSt b cI O) s.heap.size) (cSt a cI (sR Mn4 2 (O 2)) ++ cSt b cI O) := hD
  obtain ⟨Mn6, eMn6⟩ : ∃ z : SR, z = sR Mn4 2 (O 2) := ⟨_, rfl⟩
  rw [← eMn6] at hP hD
  refine lv_aload_n hx hb dX4_copyFrom_45 rfl (lv_at hl 0 rfl) ?_
  refine lv_aload_n hx hb dX4_copyFrom_46 rfl (lv_at hl 1 rfl) ?_
  refine va_get (D := (dC, dI)) (ci := 4) (v := .int (O 10 0)) (C := RX4) (T := TX4) (N := 18) hx hb hts hin4 hown hK hP 12 rfl rfl 3 (by decide) (hts (.fieldLink RX4 52 "FeedDesk$State" "muted" "I") (List.mem_of_getElem? (i := 8) rfl)) (fun _ h9 => h9) rfl dX4_copyFrom_47 ?_
  refine va_put (D := (dC, dI)) (ci := 4) (v := .int (O 10 0)) (ty := .int) (C := RX4) (T := TX4) (N := 18) hx hb hts hin4 tyX4 tyX4_ok nmX4 hown hK hP hD hS 0 rfl rfl 3 (by decide) (hts (.fieldLink RX4 52 "FeedDesk$State" "muted" "I") (List.mem_of_getElem? (i := 8) rfl)) (fun _ h9 => h9) rfl (by decide +kernel) rfl rfl (Nat.le_of_ble_eq_true rfl) dX4_copyFrom_50 (fun H7 locs hP hD hS => ?_)
  have hP : va_P (dC, dI) vwCl (cSt a cI (sU Mn6 10 0 (O 10 0)) ++ cSt b cI O) H7 := hP
  have hD : va_D (va_A (cSt a cI M ++ cSt b cI O) s.heap.size) (cSt a cI (sU Mn6 10 0 (O 10 0)) ++ cSt b cI O) := hD
  obtain ⟨Mn8, eMn8⟩ : ∃ z : SR, z = sU Mn6 10 0 (O 10 0) := ⟨_, rfl⟩
  rw [← eMn8] at hP hD
  refine lv_aload_n hx hb dX4_copyFrom_53 rfl (lv_at hl 0 rfl) ?_
  refine lv_aload_n hx hb dX4_copyFrom_54 rfl (lv_at hl 1 rfl) ?_
  refine va_get (D := (dC, dI)) (ci := 4) (v := .int (O 10 1)) (C := RX4) (T := TX4) (N := 18) hx hb hts hin4 hown hK hP 12 rfl rfl 4 (by decide) (hts (.fieldLink RX4 56 "FeedDesk$State" "safe" "I") (List.mem_of_getElem? (i := 9) rfl)) (fun _ h9 => h9) rfl dX4_copyFrom_55 ?_
  refine va_put (D := (dC, dI)) (ci := 4) (v := .int (O 10 1)) (ty := .int) (C := RX4) (T := TX4) (N := 18) hx hb hts hin4 tyX4 tyX4_ok nmX4 hown hK hP hD hS 0 rfl rfl 4 (by decide) (hts (.fieldLink RX4 56 "FeedDesk$State" "safe" "I") (List.mem_of_getElem? (i := 9) rfl)) (fun _ h9 => h9) rfl (by decide +kernel) rfl rfl (Nat.le_of_ble_eq_true rfl) dX4_copyFrom_58 (fun H9 locs hP hD hS => ?_)
  have hP : va_P (dC, dI) vwCl (cSt a cI (sU Mn8 10 1 (O 10 1)) ++ cSt b cI O) H9 := hP
  have hD : va_D (va_A (cSt a cI M ++ cSt b cI O) s.heap.size) (cSt a cI (sU Mn8 10 1 (O 10 1)) ++ cSt b cI O) := hD
  obtain ⟨Mn10, eMn10⟩ : ∃ z : SR, z = sU Mn8 10 1 (O 10 1) := ⟨_, rfl⟩
  rw [← eMn10] at hP hD
  refine lv_aload_n hx hb dX4_copyFrom_61 rfl (lv_at hl 0 rfl) ?_
  refine lv_aload_n hx hb dX4_copyFrom_62 rfl (lv_at hl 1 rfl) ?_
  refine va_get (D := (dC, dI)) (ci := 4) (v := .int (O 10 2)) (C := RX4) (T := TX4) (N := 18) hx hb hts hin4 hown hK hP 12 rfl rfl 5 (by decide) (hts (.fieldLink RX4 59 "FeedDesk$State" "soloed" "I") (List.mem_of_getElem? (i := 10) rfl)) (fun _ h9 => h9) rfl dX4_copyFrom_63 ?_
  refine va_put (D := (dC, dI)) (ci := 4) (v := .int (O 10 2)) (ty := .int) (C := RX4) (T := TX4) (N := 18) hx hb hts hin4 tyX4 tyX4_ok nmX4 hown hK hP hD hS 0 rfl rfl 5 (by decide) (hts (.fieldLink RX4 59 "FeedDesk$State" "soloed" "I") (List.mem_of_getElem? (i := 10) rfl)) (fun _ h9 => h9) rfl (by decide +kernel) rfl rfl (Nat.le_of_ble_eq_true rfl) dX4_copyFrom_66 (fun H11 locs hP hD hS => ?_)
  have hP : va_P (dC, dI) vwCl (cSt a cI (sU Mn10 10 2 (O 10 2)) ++ cSt b cI O) H11 := hP
  have hD : va_D (va_A (cSt a cI M ++ cSt b cI O) s.heap.size) (cSt a cI (sU Mn10 10 2 (O 10 2)) ++ cSt b cI O) := hD
  obtain ⟨Mn12, eMn12⟩ : ∃ z : SR, z = sU Mn10 10 2 (O 10 2) := ⟨_, rfl⟩
  rw [← eMn12] at hP hD
  refine lv_aload_n hx hb dX4_copyFrom_69 rfl (lv_at hl 1 rfl) ?_
  refine va_get (D := (dC, dI)) (ci := 4) (v := .ref (b 4)) (C := RX4) (T := TX4) (N := 18) hx hb hts hin4 hown hK hP 12 rfl rfl 6 (by decide) (hts (.fieldLink RX4 21 "FeedDesk$State" "sends" "[I") (List.mem_of_getElem? (i := 11) rfl)) (fun _ h9 => h9) rfl dX4_copyFrom_70 ?_
  refine lv_iconst (v := 0) hx hb dX4_copyFrom_73 (by decide) ?_
  refine lv_aload_n hx hb dX4_copyFrom_74 rfl (lv_at hl 0 rfl) ?_
  refine va_get (D := (dC, dI)) (ci := 4) (v := .ref (a 4)) (C := RX4) (T := TX4) (N := 18) hx hb hts hin4 hown hK hP 0 rfl rfl 6 (by decide) (hts (.fieldLink RX4 21 "FeedDesk$State" "sends" "[I") (List.mem_of_getElem? (i := 11) rfl)) (fun _ h9 => h9) rfl dX4_copyFrom_75 ?_
  refine lv_iconst (v := 0) hx hb dX4_copyFrom_78 (by decide) ?_
  refine lv_bipush (v := 48) hx hb dX4_copyFrom_79 (by decide) ?_
  refine va_copyT (h := O 3) (f := O 3) (g := Mn12 3) hx hb (hml.trans hl.1.symm) hown (hts (.methodLink RX4 46 arraycopyName) (List.mem_of_getElem? (i := 2) rfl)) (hts (.native arraycopyName) (List.mem_of_getElem? (i := 3) rfl)) (hts (.static arraycopyName) (List.mem_of_getElem? (i := 4) rfl)) (hts (.initialized "java/lang/System") (List.mem_of_getElem? (i := 5) rfl)) hK hP hD hS 16 4 0 0 rfl rfl rfl rfl rfl (by decide) (by decide) (by decide) (by decide +kernel) (by decide +kernel) (fun _ _ => rfl) (fun q hq => cp_full hq) (Nat.le_of_ble_eq_true rfl) (Nat.le_of_ble_eq_true rfl) dX4_copyFrom_81 (fun H13 locs hP hD hS => ?_)
  have hP : va_P (dC, dI) vwCl (cSt a cI (sR Mn12 3 (O 3)) ++ cSt b cI O) H13 := hP
  have hD : va_D (va_A (cSt a cI M ++ cSt b cI O) s.heap.size) (cSt a cI (sR Mn12 3 (O 3)) ++ cSt b cI O) := hD
  obtain ⟨Mn14, eMn14⟩ : ∃ z : SR, z = sR Mn12 3 (O 3) := ⟨_, rfl⟩
  rw [← eMn14] at hP hD
  refine lv_aload_n hx hb dX4_copyFrom_84 rfl (lv_at hl 1 rfl) ?_
  refine va_get (D := (dC, dI)) (ci := 4) (v := .ref (b 5)) (C := RX4) (T := TX4) (N := 18) hx hb hts hin4 hown hK hP 12 rfl rfl 7 (by decide) (hts (.fieldLink RX4 24 "FeedDesk$State" "owners" "[I") (List.mem_of_getElem? (i := 12) rfl)) (fun _ h9 => h9) rfl dX4_copyFrom_85 ?_
  refine lv_iconst (v := 0) hx hb dX4_copyFrom_88 (by decide) ?_
  refine lv_aload_n hx hb dX4_copyFrom_89 rfl (lv_at hl 0 rfl) ?_
  refine va_get (D := (dC, dI)) (ci := 4) (v := .ref (a 5)) (C := RX4) (T := TX4) (N := 18) hx hb hts hin4 hown hK hP 0 rfl rfl 7 (by decide) (hts (.fieldLink RX4 24 "FeedDesk$State" "owners" "[I") (List.mem_of_getElem? (i := 12) rfl)) (fun _ h9 => h9) rfl dX4_copyFrom_90 ?_
  refine lv_iconst (v := 0) hx hb dX4_copyFrom_93 (by decide) ?_
  refine lv_iconst (v := 4) hx hb dX4_copyFrom_94 (by decide) ?_
  refine va_copyT (h := O 4) (f := O 4) (g := Mn14 4) hx hb (hml.trans hl.1.symm) hown (hts (.methodLink RX4 46 arraycopyName) (List.mem_of_getElem? (i := 2) rfl)) (hts (.native arraycopyName) (List.mem_of_getElem? (i := 3) rfl)) (hts (.static arraycopyName) (List.mem_of_getElem? (i := 4) rfl)) (hts (.initialized "java/lang/System") (List.mem_of_getElem? (i := 5) rfl)) hK hP hD hS 17 5 0 0 rfl rfl rfl rfl rfl (by decide) (by decide) (by decide) (by decide +kernel) (by decide +kernel) (fun _ _ => rfl) (fun q hq => cp_full hq) (Nat.le_of_ble_eq_true rfl) (Nat.le_of_ble_eq_true rfl) dX4_copyFrom_95 (fun H15 locs hP hD hS => ?_)
  have hP : va_P (dC, dI) vwCl (cSt a cI (sR Mn14 4 (O 4)) ++ cSt b cI O) H15 := hP
  have hD : va_D (va_A (cSt a cI M ++ cSt b cI O) s.heap.size) (cSt a cI (sR Mn14 4 (O 4)) ++ cSt b cI O) := hD
  obtain ⟨Mn16, eMn16⟩ : ∃ z : SR, z = sR Mn14 4 (O 4) := ⟨_, rfl⟩
  rw [← eMn16] at hP hD
  refine lv_aload_n hx hb dX4_copyFrom_98 rfl (lv_at hl 1 rfl) ?_
  refine va_get (D := (dC, dI)) (ci := 4) (v := .ref (b 6)) (C := RX4) (T := TX4) (N := 18) hx hb hts hin4 hown hK hP 12 rfl rfl 8 (by decide) (hts (.fieldLink RX4 27 "FeedDesk$State" "returns" "[I") (List.mem_of_getElem? (i := 13) rfl)) (fun _ h9 => h9) rfl dX4_copyFrom_99 ?_
  refine lv_iconst (v := 0) hx hb dX4_copyFrom_102 (by decide) ?_
  refine lv_aload_n hx hb dX4_copyFrom_103 rfl (lv_at hl 0 rfl) ?_
  refine va_get (D := (dC, dI)) (ci := 4) (v := .ref (a 6)) (C := RX4) (T := TX4) (N := 18) hx hb hts hin4 hown hK hP 0 rfl rfl 8 (by decide) (hts (.fieldLink RX4 27 "FeedDesk$State" "returns" "[I") (List.mem_of_getElem? (i := 13) rfl)) (fun _ h9 => h9) rfl dX4_copyFrom_104 ?_
  refine lv_iconst (v := 0) hx hb dX4_copyFrom_107 (by decide) ?_
  refine lv_iconst (v := 4) hx hb dX4_copyFrom_108 (by decide) ?_
  refine va_copyT (h := O 5) (f := O 5) (g := Mn16 5) hx hb (hml.trans hl.1.symm) hown (hts (.methodLink RX4 46 arraycopyName) (List.mem_of_getElem? (i := 2) rfl)) (hts (.native arraycopyName) (List.mem_of_getElem? (i := 3) rfl)) (hts (.static arraycopyName) (List.mem_of_getElem? (i := 4) rfl)) (hts (.initialized "java/lang/System") (List.mem_of_getElem? (i := 5) rfl)) hK hP hD hS 18 6 0 0 rfl rfl rfl rfl rfl (by decide) (by decide) (by decide) (by decide +kernel) (by decide +kernel) (fun _ _ => rfl) (fun q hq => cp_full hq) (Nat.le_of_ble_eq_true rfl) (Nat.le_of_ble_eq_true rfl) dX4_copyFrom_109 (fun H17 locs hP hD hS => ?_)
  have hP : va_P (dC, dI) vwCl (cSt a cI (sR Mn16 5 (O 5)) ++ cSt b cI O) H17 := hP
  have hD : va_D (va_A (cSt a cI M ++ cSt b cI O) s.heap.size) (cSt a cI (sR Mn16 5 (O 5)) ++ cSt b cI O) := hD
  obtain ⟨Mn18, eMn18⟩ : ∃ z : SR, z = sR Mn16 5 (O 5) := ⟨_, rfl⟩
  rw [← eMn18] at hP hD
  refine lv_aload_n hx hb dX4_copyFrom_112 rfl (lv_at hl 1 rfl) ?_
  refine va_get (D := (dC, dI)) (ci := 4) (v := .ref (b 7)) (C := RX4) (T := TX4) (N := 18) hx hb hts hin4 hown hK hP 12 rfl rfl 9 (by decide) (hts (.fieldLink RX4 30 "FeedDesk$State" "signal" "[I") (List.mem_of_getElem? (i := 14) rfl)) (fun _ h9 => h9) rfl dX4_copyFrom_113 ?_
  refine lv_iconst (v := 0) hx hb dX4_copyFrom_116 (by decide) ?_
  refine lv_aload_n hx hb dX4_copyFrom_117 rfl (lv_at hl 0 rfl) ?_
  refine va_get (D := (dC, dI)) (ci := 4) (v := .ref (a 7)) (C := RX4) (T := TX4) (N := 18) hx hb hts hin4 hown hK hP 0 rfl rfl 9 (by decide) (hts (.fieldLink RX4 30 "FeedDesk$State" "signal" "[I") (List.mem_of_getElem? (i := 14) rfl)) (fun _ h9 => h9) rfl dX4_copyFrom_118 ?_
  refine lv_iconst (v := 0) hx hb dX4_copyFrom_121 (by decide) ?_
  refine lv_bipush (v := 12) hx hb dX4_copyFrom_122 (by decide) ?_
  refine va_copyT (h := O 6) (f := O 6) (g := Mn18 6) hx hb (hml.trans hl.1.symm) hown (hts (.methodLink RX4 46 arraycopyName) (List.mem_of_getElem? (i := 2) rfl)) (hts (.native arraycopyName) (List.mem_of_getElem? (i := 3) rfl)) (hts (.static arraycopyName) (List.mem_of_getElem? (i := 4) rfl)) (hts (.initialized "java/lang/System") (List.mem_of_getElem? (i := 5) rfl)) hK hP hD hS 19 7 0 0 rfl rfl rfl rfl rfl (by decide) (by decide) (by decide) (by decide +kernel) (by decide +kernel) (fun _ _ => rfl) (fun q hq => cp_full hq) (Nat.le_of_ble_eq_true rfl) (Nat.le_of_ble_eq_true rfl) dX4_copyFrom_124 (fun H19 locs hP hD hS => ?_)
  have hP : va_P (dC, dI) vwCl (cSt a cI (sR Mn18 6 (O 6)) ++ cSt b cI O) H19 := hP
  have hD : va_D (va_A (cSt a cI M ++ cSt b cI O) s.heap.size) (cSt a cI (sR Mn18 6 (O 6)) ++ cSt b cI O) := hD
  obtain ⟨Mn20, eMn20⟩ : ∃ z : SR, z = sR Mn18 6 (O 6) := ⟨_, rfl⟩
  rw [← eMn20] at hP hD
  refine lv_aload_n hx hb dX4_copyFrom_127 rfl (lv_at hl 1 rfl) ?_
  refine va_get (D := (dC, dI)) (ci := 4) (v := .ref (b 8)) (C := RX4) (T := TX4) (N := 18) hx hb hts hin4 hown hK hP 12 rfl rfl 10 (by decide) (hts (.fieldLink RX4 33 "FeedDesk$State" "output" "[I") (List.mem_of_getElem? (i := 15) rfl)) (fun _ h9 => h9) rfl dX4_copyFrom_128 ?_
  refine lv_iconst (v := 0) hx hb dX4_copyFrom_131 (by decide) ?_
  refine lv_aload_n hx hb dX4_copyFrom_132 rfl (lv_at hl 0 rfl) ?_
  refine va_get (D := (dC, dI)) (ci := 4) (v := .ref (a 8)) (C := RX4) (T := TX4) (N := 18) hx hb hts hin4 hown hK hP 0 rfl rfl 10 (by decide) (hts (.fieldLink RX4 33 "FeedDesk$State" "output" "[I") (List.mem_of_getElem? (i := 15) rfl)) (fun _ h9 => h9) rfl dX4_copyFrom_133 ?_
  refine lv_iconst (v := 0) hx hb dX4_copyFrom_136 (by decide) ?_
  refine lv_iconst (v := 4) hx hb dX4_copyFrom_137 (by decide) ?_
  refine va_copyT (h := O 7) (f := O 7) (g := Mn20 7) hx hb (hml.trans hl.1.symm) hown (hts (.methodLink RX4 46 arraycopyName) (List.mem_of_getElem? (i := 2) rfl)) (hts (.native arraycopyName) (List.mem_of_getElem? (i := 3) rfl)) (hts (.static arraycopyName) (List.mem_of_getElem? (i := 4) rfl)) (hts (.initialized "java/lang/System") (List.mem_of_getElem? (i := 5) rfl)) hK hP hD hS 20 8 0 0 rfl rfl rfl rfl rfl (by decide) (by decide) (by decide) (by decide +kernel) (by decide +kernel) (fun _ _ => rfl) (fun q hq => cp_full hq) (Nat.le_of_ble_eq_true rfl) (Nat.le_of_ble_eq_true rfl) dX4_copyFrom_138 (fun H21 locs hP hD hS => ?_)
  have hP : va_P (dC, dI) vwCl (cSt a cI (sR Mn20 7 (O 7)) ++ cSt b cI O) H21 := hP
  have hD : va_D (va_A (cSt a cI M ++ cSt b cI O) s.heap.size) (cSt a cI (sR Mn20 7 (O 7)) ++ cSt b cI O) := hD
  obtain ⟨Mn22, eMn22⟩ : ∃ z : SR, z = sR Mn20 7 (O 7) := ⟨_, rfl⟩
  rw [← eMn22] at hP hD
  refine lv_aload_n hx hb dX4_copyFrom_141 rfl (lv_at hl 0 rfl) ?_
  refine lv_aload_n hx hb dX4_copyFrom_142 rfl (lv_at hl 1 rfl) ?_
  refine va_get (D := (dC, dI)) (ci := 4) (v := .int (O 10 3)) (C := RX4) (T := TX4) (N := 18) hx hb hts hin4 hown hK hP 12 rfl rfl 11 (by decide) (hts (.fieldLink RX4 62 "FeedDesk$State" "ticks" "I") (List.mem_of_getElem? (i := 16) rfl)) (fun _ h9 => h9) rfl dX4_copyFrom_143 ?_
  refine va_put (D := (dC, dI)) (ci := 4) (v := .int (O 10 3)) (ty := .int) (C := RX4) (T := TX4) (N := 18) hx hb hts hin4 tyX4 tyX4_ok nmX4 hown hK hP hD hS 0 rfl rfl 11 (by decide) (hts (.fieldLink RX4 62 "FeedDesk$State" "ticks" "I") (List.mem_of_getElem? (i := 16) rfl)) (fun _ h9 => h9) rfl (by decide +kernel) rfl rfl (Nat.le_of_ble_eq_true rfl) dX4_copyFrom_146 (fun H23 locs hP hD hS => ?_)
  have hP : va_P (dC, dI) vwCl (cSt a cI (sU Mn22 10 3 (O 10 3)) ++ cSt b cI O) H23 := hP
  have hD : va_D (va_A (cSt a cI M ++ cSt b cI O) s.heap.size) (cSt a cI (sU Mn22 10 3 (O 10 3)) ++ cSt b cI O) := hD
  obtain ⟨Mn24, eMn24⟩ : ∃ z : SR, z = sU Mn22 10 3 (O 10 3) := ⟨_, rfl⟩
  rw [← eMn24] at hP hD
  refine lv_aload_n hx hb dX4_copyFrom_149 rfl (lv_at hl 0 rfl) ?_
  refine lv_aload_n hx hb dX4_copyFrom_150 rfl (lv_at hl 1 rfl) ?_
  refine va_get (D := (dC, dI)) (ci := 4) (v := .int (O 10 4)) (C := RX4) (T := TX4) (N := 18) hx hb hts hin4 hown hK hP 12 rfl rfl 12 (by decide) (hts (.fieldLink RX4 65 "FeedDesk$State" "mainSum" "I") (List.mem_of_getElem? (i := 17) rfl)) (fun _ h9 => h9) rfl dX4_copyFrom_151 ?_
  refine va_put (D := (dC, dI)) (ci := 4) (v := .int (O 10 4)) (ty := .int) (C := RX4) (T := TX4) (N := 18) hx hb hts hin4 tyX4 tyX4_ok nmX4 hown hK hP hD hS 0 rfl rfl 12 (by decide) (hts (.fieldLink RX4 65 "FeedDesk$State" "mainSum" "I") (List.mem_of_getElem? (i := 17) rfl)) (fun _ h9 => h9) rfl (by decide +kernel) rfl rfl (Nat.le_of_ble_eq_true rfl) dX4_copyFrom_154 (fun H25 locs hP hD hS => ?_)
  have hP : va_P (dC, dI) vwCl (cSt a cI (sU Mn24 10 4 (O 10 4)) ++ cSt b cI O) H25 := hP
  have hD : va_D (va_A (cSt a cI M ++ cSt b cI O) s.heap.size) (cSt a cI (sU Mn24 10 4 (O 10 4)) ++ cSt b cI O) := hD
  obtain ⟨Mn26, eMn26⟩ : ∃ z : SR, z = sU Mn24 10 4 (O 10 4) := ⟨_, rfl⟩
  rw [← eMn26] at hP hD
  refine lv_aload_n hx hb dX4_copyFrom_157 rfl (lv_at hl 0 rfl) ?_
  refine lv_aload_n hx hb dX4_copyFrom_158 rfl (lv_at hl 1 rfl) ?_
  refine va_get (D := (dC, dI)) (ci := 4) (v := .int (O 10 5)) (C := RX4) (T := TX4) (N := 18) hx hb hts hin4 hown hK hP 12 rfl rfl 13 (by decide) (hts (.fieldLink RX4 68 "FeedDesk$State" "peak" "I") (List.mem_of_getElem? (i := 18) rfl)) (fun _ h9 => h9) rfl dX4_copyFrom_159 ?_
  refine va_put (D := (dC, dI)) (ci := 4) (v := .int (O 10 5)) (ty := .int) (C := RX4) (T := TX4) (N := 18) hx hb hts hin4 tyX4 tyX4_ok nmX4 hown hK hP hD hS 0 rfl rfl 13 (by decide) (hts (.fieldLink RX4 68 "FeedDesk$State" "peak" "I") (List.mem_of_getElem? (i := 18) rfl)) (fun _ h9 => h9) rfl (by decide +kernel) rfl rfl (Nat.le_of_ble_eq_true rfl) dX4_copyFrom_162 (fun H27 locs hP hD hS => ?_)
  have hP : va_P (dC, dI) vwCl (cSt a cI (sU Mn26 10 5 (O 10 5)) ++ cSt b cI O) H27 := hP
  have hD : va_D (va_A (cSt a cI M ++ cSt b cI O) s.heap.size) (cSt a cI (sU Mn26 10 5 (O 10 5)) ++ cSt b cI O) := hD
  obtain ⟨Mn28, eMn28⟩ : ∃ z : SR, z = sU Mn26 10 5 (O 10 5) := ⟨_, rfl⟩
  rw [← eMn28] at hP hD
  refine lv_aload_n hx hb dX4_copyFrom_165 rfl (lv_at hl 0 rfl) ?_
  refine lv_aload_n hx hb dX4_copyFrom_166 rfl (lv_at hl 1 rfl) ?_
  refine va_get (D := (dC, dI)) (ci := 4) (v := .int (O 10 6)) (C := RX4) (T := TX4) (N := 18) hx hb hts hin4 hown hK hP 12 rfl rfl 14 (by decide) (hts (.fieldLink RX4 71 "FeedDesk$State" "clips" "I") (List.mem_of_getElem? (i := 19) rfl)) (fun _ h9 => h9) rfl dX4_copyFrom_167 ?_
  refine va_put (D := (dC, dI)) (ci := 4) (v := .int (O 10 6)) (ty := .int) (C := RX4) (T := TX4) (N := 18) hx hb hts hin4 tyX4 tyX4_ok nmX4 hown hK hP hD hS 0 rfl rfl 14 (by decide) (hts (.fieldLink RX4 71 "FeedDesk$State" "clips" "I") (List.mem_of_getElem? (i := 19) rfl)) (fun _ h9 => h9) rfl (by decide +kernel) rfl rfl (Nat.le_of_ble_eq_true rfl) dX4_copyFrom_170 (fun H29 locs hP hD hS => ?_)
  have hP : va_P (dC, dI) vwCl (cSt a cI (sU Mn28 10 6 (O 10 6)) ++ cSt b cI O) H29 := hP
  have hD : va_D (va_A (cSt a cI M ++ cSt b cI O) s.heap.size) (cSt a cI (sU Mn28 10 6 (O 10 6)) ++ cSt b cI O) := hD
  obtain ⟨Mn30, eMn30⟩ : ∃ z : SR, z = sU Mn28 10 6 (O 10 6) := ⟨_, rfl⟩
  rw [← eMn30] at hP hD
  refine lv_aload_n hx hb dX4_copyFrom_173 rfl (lv_at hl 1 rfl) ?_
  refine va_get (D := (dC, dI)) (ci := 4) (v := .ref (b 9)) (C := RX4) (T := TX4) (N := 18) hx hb hts hin4 hown hK hP 12 rfl rfl 15 (by decide) (hts (.fieldLink RX4 36 "FeedDesk$State" "scenes" "[I") (List.mem_of_getElem? (i := 20) rfl)) (fun _ h9 => h9) rfl dX4_copyFrom_174 ?_
  refine lv_iconst (v := 0) hx hb dX4_copyFrom_177 (by decide) ?_
  refine lv_aload_n hx hb dX4_copyFrom_178 rfl (lv_at hl 0 rfl) ?_
  refine va_get (D := (dC, dI)) (ci := 4) (v := .ref (a 9)) (C := RX4) (T := TX4) (N := 18) hx hb hts hin4 hown hK hP 0 rfl rfl 15 (by decide) (hts (.fieldLink RX4 36 "FeedDesk$State" "scenes" "[I") (List.mem_of_getElem? (i := 20) rfl)) (fun _ h9 => h9) rfl dX4_copyFrom_179 ?_
  refine lv_iconst (v := 0) hx hb dX4_copyFrom_182 (by decide) ?_
  refine lv_bipush (v := 102) hx hb dX4_copyFrom_183 (by decide) ?_
  refine va_copyT (h := O 8) (f := O 8) (g := Mn30 8) hx hb (hml.trans hl.1.symm) hown (hts (.methodLink RX4 46 arraycopyName) (List.mem_of_getElem? (i := 2) rfl)) (hts (.native arraycopyName) (List.mem_of_getElem? (i := 3) rfl)) (hts (.static arraycopyName) (List.mem_of_getElem? (i := 4) rfl)) (hts (.initialized "java/lang/System") (List.mem_of_getElem? (i := 5) rfl)) hK hP hD hS 21 9 0 0 rfl rfl rfl rfl rfl (by decide) (by decide) (by decide) (by decide +kernel) (by decide +kernel) (fun _ _ => rfl) (fun q hq => cp_full hq) (Nat.le_of_ble_eq_true rfl) (Nat.le_of_ble_eq_true rfl) dX4_copyFrom_185 (fun H31 locs hP hD hS => ?_)
  have hP : va_P (dC, dI) vwCl (cSt a cI (sR Mn30 8 (O 8)) ++ cSt b cI O) H31 := hP
  have hD : va_D (va_A (cSt a cI M ++ cSt b cI O) s.heap.size) (cSt a cI (sR Mn30 8 (O 8)) ++ cSt b cI O) := hD
  obtain ⟨Mn32, eMn32⟩ : ∃ z : SR, z = sR Mn30 8 (O 8) := ⟨_, rfl⟩
  rw [← eMn32] at hP hD
  refine lv_aload_n hx hb dX4_copyFrom_188 rfl (lv_at hl 0 rfl) ?_
  refine lv_aload_n hx hb dX4_copyFrom_189 rfl (lv_at hl 1 rfl) ?_
  refine va_get (D := (dC, dI)) (ci := 4) (v := .int (O 10 7)) (C := RX4) (T := TX4) (N := 18) hx hb hts hin4 hown hK hP 12 rfl rfl 16 (by decide) (hts (.fieldLink RX4 74 "FeedDesk$State" "stored" "I") (List.mem_of_getElem? (i := 21) rfl)) (fun _ h9 => h9) rfl dX4_copyFrom_190 ?_
  refine va_put (D := (dC, dI)) (ci := 4) (v := .int (O 10 7)) (ty := .int) (C := RX4) (T := TX4) (N := 18) hx hb hts hin4 tyX4 tyX4_ok nmX4 hown hK hP hD hS 0 rfl rfl 16 (by decide) (hts (.fieldLink RX4 74 "FeedDesk$State" "stored" "I") (List.mem_of_getElem? (i := 21) rfl)) (fun _ h9 => h9) rfl (by decide +kernel) rfl rfl (Nat.le_of_ble_eq_true rfl) dX4_copyFrom_193 (fun H33 locs hP hD hS => ?_)
  have hP : va_P (dC, dI) vwCl (cSt a cI (sU Mn32 10 7 (O 10 7)) ++ cSt b cI O) H33 := hP
  have hD : va_D (va_A (cSt a cI M ++ cSt b cI O) s.heap.size) (cSt a cI (sU Mn32 10 7 (O 10 7)) ++ cSt b cI O) := hD
  obtain ⟨Mn34, eMn34⟩ : ∃ z : SR, z = sU Mn32 10 7 (O 10 7) := ⟨_, rfl⟩
  rw [← eMn34] at hP hD
  refine lv_aload_n hx hb dX4_copyFrom_196 rfl (lv_at hl 0 rfl) ?_
  refine va_get (D := (dC, dI)) (ci := 4) (v := .ref (a 10)) (C := RX4) (T := TX4) (N := 18) hx hb hts hin4 hown hK hP 0 rfl rfl 17 (by decide) (hts (.fieldLink RX4 42 "FeedDesk$State" "fade" "LFeedDesk$Fade;") (List.mem_of_getElem? (i := 22) rfl)) (fun _ h9 => h9) rfl dX4_copyFrom_197 ?_
  refine lv_aload_n hx hb dX4_copyFrom_200 rfl (lv_at hl 1 rfl) ?_
  refine va_get (D := (dC, dI)) (ci := 4) (v := .ref (b 10)) (C := RX4) (T := TX4) (N := 18) hx hb hts hin4 hown hK hP 12 rfl rfl 17 (by decide) (hts (.fieldLink RX4 42 "FeedDesk$State" "fade" "LFeedDesk$Fade;") (List.mem_of_getElem? (i := 22) rfl)) (fun _ h9 => h9) rfl dX4_copyFrom_201 ?_
  have hPc : va_P (dC, dI) vwCl (cFd (fun j => a (10 + j)) cI Mn34 ++ cFd (fun j => b (10 + j)) cI O) H33 := hP.sub [10, 11, 22, 23] rfl
  have hDc : va_D (va_A (cSt a cI M ++ cSt b cI O) s.heap.size) (cFd (fun j => a (10 + j)) cI Mn34 ++ cFd (fun j => b (10 + j)) cI O) := hD.sub [10, 11, 22, 23] (by decide) rfl
  have hFc : ∀ q : Nat, va_A (cFd (fun j => a (10 + j)) cI Mn34 ++ cFd (fun j => b (10 + j)) cI O) H33.size q → (va_A (cSt a cI M ++ cSt b cI O) s.heap.size) q := va_free hD hS hA [10, 11, 22, 23] rfl
  refine va_callv (va_runV (As := [.ref (b 10)]) (rest := []) ⟨hx, hb, hml, hown, hts⟩ (c_X0_copyFrom l dC dI cI cC cS (fun j => a (10 + j)) (fun j => b (10 + j)) Mn34 O H33.size) (cwV 1 hts gX4_copyFrom_X0_copyFrom rfl rfl rfl (by decide +kernel) ⟨Nat.le_of_ble_eq_true rfl, Nat.le_of_ble_eq_true rfl⟩) (pV (q0 := 0) hK hPc hDc hN rfl rfl) rfl rfl hl.1 rfl (lv_room (Nat.le_of_ble_eq_true rfl)) dX4_copyFrom_204 ⟨Nat.le_of_ble_eq_true rfl, Nat.le_of_ble_eq_true rfl⟩) hS (fun q _ h => hFc q h) hFc (fun u_35 t_35 H36 locs ht hvm hw hB hz1 hk1 hS => ?_)
  obtain ⟨hP1, hD1⟩ := hB
  rw [ht] at hP1
  rw [hw] at hP1 hD1
  obtain ⟨hP, hD⟩ := va_join (wc := cFd (fun j => a (10 + j)) cI Mn34 ++ cFd (fun j => b (10 + j)) cI O) (wr := [(a 0, .inr (4, [.ref (a 1), .ref (a 2), .ref (a 3), .int (Mn34 10 0), .int (Mn34 10 1), .int (Mn34 10 2), .ref (a 4), .ref (a 5), .ref (a 6), .ref (a 7), .ref (a 8), .int (Mn34 10 3), .int (Mn34 10 4), .int (Mn34 10 5), .int (Mn34 10 6), .ref (a 9), .int (Mn34 10 7), .ref (a 10)])), (a 1, .inl (cI, 12, .inl (Mn34 0))), (a 2, .inl (cI, 16, .inl (Mn34 1))), (a 3, .inl (cI, 12, .inl (Mn34 2))), (a 4, .inl (cI, 48, .inl (Mn34 3))), (a 5, .inl (cI, 4, .inl (Mn34 4))), (a 6, .inl (cI, 4, .inl (Mn34 5))), (a 7, .inl (cI, 12, .inl (Mn34 6))), (a 8, .inl (cI, 4, .inl (Mn34 7))), (a 9, .inl (cI, 102, .inl (Mn34 8))), (b 0, .inr (4, [.ref (b 1), .ref (b 2), .ref (b 3), .int (O 10 0), .int (O 10 1), .int (O 10 2), .ref (b 4), .ref (b 5), .ref (b 6), .ref (b 7), .ref (b 8), .int (O 10 3), .int (O 10 4), .int (O 10 5), .int (O 10 6), .ref (b 9), .int (O 10 7), .ref (b 10)])), (b 1, .inl (cI, 12, .inl (O 0))), (b 2, .inl (cI, 16, .inl (O 1))), (b 3, .inl (cI, 12, .inl (O 2))), (b 4, .inl (cI, 48, .inl (O 3))), (b 5, .inl (cI, 4, .inl (O 4))), (b 6, .inl (cI, 4, .inl (O 5))), (b 7, .inl (cI, 12, .inl (O 6))), (b 8, .inl (cI, 4, .inl (O 7))), (b 9, .inl (cI, 102, .inl (O 8)))]) (w1 := cFd (fun j => a (10 + j)) cI O ++ cFd (fun j => b (10 + j)) cI O) hP hD [10, 11, 22, 23] [0, 1, 2, 3, 4, 5, 6, 7, 8, 9, 12, 13, 14, 15, 16, 17, 18, 19, 20, 21] rfl rfl (by decide) (by decide) hk1 hFc hP1 hD1
  have hP : va_P (dC, dI) vwCl (cSt a cI (mFd Mn34 O) ++ cSt b cI O) H36 := hP.sub [0, 1, 2, 3, 4, 5, 6, 7, 8, 9, 20, 21, 10, 11, 12, 13, 14, 15, 16, 17, 18, 19, 22, 23] rfl
  have hD : va_D (va_A (cSt a cI M ++ cSt b cI O) s.heap.size) (cSt a cI (mFd Mn34 O) ++ cSt b cI O) := hD.sub [0, 1, 2, 3, 4, 5, 6, 7, 8, 9, 20, 21, 10, 11, 12, 13, 14, 15, 16, 17, 18, 19, 22, 23] (by decide) rfl
  obtain ⟨Mn37, eMn37⟩ : ∃ z : SR, z = mFd Mn34 O := ⟨_, rfl⟩
  rw [← eMn37] at hP hD
  subst eMn37
  subst eMn34
  subst eMn32
  subst eMn30
  subst eMn28
  subst eMn26
  subst eMn24
  subst eMn22
  subst eMn20
  subst eMn18
  subst eMn16
  subst eMn14
  subst eMn12
  subst eMn10
  subst eMn8
  subst eMn6
  subst eMn4
  subst eMn2
  exact W.vret hx hb hr (fun t ht hWw => ⟨⟨O, rfl, rfl, by rw [ht]; exact hP, hD⟩, hS.F ht⟩) hS.2.2 dX4_copyFrom_207
abbrev rm_X4_setChannelByHand : Room := { frames := 2, cells := 0, slots := 0, locals := 41 }
def f_X4_setChannelByHand_p91 (p1 : Int32) (p2 : Int32) (p3 : Int32)    (M_91 : SR) : SR := (if p2 = 1 then sLet (mFd M_91 (f_X0_touch M_91 p1)) (fun Mn5 : SR => Mn5) else (if p2 = 2 then sLet (mFd M_91 (f_X0_touch M_91 p1)) (fun Mn11 : SR => Mn11) else M_91))
def f_X4_setChannelByHand (M : SR) (p1 : Int32) (p2 : Int32) (p3 : Int32) : SR := (if p2 = 0 then sLet (sU M 0 p1.toNatClampNeg p3) (fun Mn15 : SR => f_X4_setChannelByHand_p91 p1 p2 p3 Mn15) else (if p2 = 1 then sLet (sU M 1 p1.toNatClampNeg p3) (fun Mn19 : SR => f_X4_setChannelByHand_p91 p1 p2 p3 Mn19) else (if p2 = 2 then sLet (sU M 10 0 (f_X5_withBit (M 10 0) p1 p3)) (fun Mn25 : SR => f_X4_setChannelByHand_p91 p1 p2 p3 Mn25) else (if p2 = 3 then sLet (sU M 10 1 (f_X5_withBit (M 10 1) p1 p3)) (fun Mn31 : SR => f_X4_setChannelByHand_p91 p1 p2 p3 Mn31) else sLet (sU M 2 p1.toNatClampNeg p3) (fun Mn34 : SR => f_X4_setChannelByHand_p91 p1 p2 p3 Mn34)))))
set_option maxHeartbeats 4000000 in
set_option maxRecDepth 100000 in
theorem c_X4_setChannelByHand (l : Launch) (dC : Nat → ClassId) (dI : Nat → Nat → Nat) (cI cC cS : ClassId) (a : Nat → Nat) (M : SR) (sz : Nat) (p1 : Int32) (p2 : Int32) (p3 : Int32) (h1 : vp_in p1 12) (hW : WF M) : Met l yX4_setChannelByHand wsX4_setChannelByHand rm_X4_setChannelByHand (PcG (dC, dI) (tyL cI cC cS) (cSt a cI M) sz [.ref (a 0), .int p1, .int p2, .int p3]) (va_Qv (fun (u : SR) => u = f_X4_setChannelByHand M p1 p2 p3 ∧ (WF u)) (fun u U => va_P (dC, dI) vwCl (cSt a cI u) U.heap ∧ va_D (va_A (cSt a cI M) sz) (cSt a cI u)) (va_A (cSt a cI M) sz)) 0 0 (va_A (cSt a cI M) sz) := by
  refine Met.ofW (cc := cX4_setChannelByHand) (maxL := 4) (ret := none) (by decide) rfl ?_
  intro p e s m args below meth c s₁ B hml hv
  obtain ⟨rfl, hsz, hP, hK, hD0, hN⟩ := hv
  have hx := B.exec
  have hb := B.bytes
  have hr := B.returns
  have hts := atoms_spec (ws := wsX4_setChannelByHand) B.pre
  have hown : s.vm.findClass RX4 = some m.cls := findClass_of_methodNamed B.named
  have hlocks := B.notSynchronized
  subst hsz
  have hD := hD0.self (sz := s.heap.size)
  have hA : ∀ q : Nat, s.heap.size ≤ q → (va_A (cSt a cI M) s.heap.size) q := fun q h => Or.inr h
  have hS : va_S (va_A (cSt a cI M) s.heap.size) s.heap s.heap [] := va_S.rf
  have hin4 : ∀ w ∈ wsX40, w ∈ wsX4_setChannelByHand := fun _ h => List.mem_cons_of_mem _ (List.mem_append_left _ (List.mem_append_right _ h))
  have hl := lv_entry [.ref (a 0), .int p1, .int p2, .int p3] (n := 4) (Nat.le_of_ble_eq_true rfl)
  rw [lg_entry_eq]
  generalize (lg_sl [.ref (a 0), .int p1, .int p2, .int p3] ++ List.replicate (4 - (lg_sl [.ref (a 0), .int p1, .int p2, .int p3]).length) Slot.unset).toArray = ls at hl ⊢
  have hl : lv_has ls 4 [(0, .ref (a 0)), (1, .int p1), (2, .int p2), (3, .int p3)] := hl
  obtain ⟨R0, eR⟩ : ∃ z, z = f_X4_setChannelByHand M p1 p2 p3 := ⟨_, rfl⟩
  have hR := eR
  rw [f_X4_setChannelByHand] at hR
  refine lv_iload_n hx hb dX4_setChannelByHand_0 rfl (lv_at hl 2 rfl) ?_
  have hJ_91 : ∀   (M_91 : SR), WF M_91 → R0 = f_X4_setChannelByHand_p91 p1 p2 p3 M_91 → ∀ (H : Heap) (locs : List Loc) (ls : Array Slot), va_P (dC, dI) vwCl (cSt a cI M_91) H → va_D (va_A (cSt a cI M) s.heap.size) (cSt a cI M_91) → va_S (va_A (cSt a cI M) s.heap.size) s.heap H locs → lv_has ls 4 [(0, .ref (a 0)), (1, .int p1), (2, .int p2), (3, .int p3)] → W p l e (headSpec wsX4_setChannelByHand rm_X4_setChannelByHand).room s m ([.ref (a 0), .int p1, .int p2, .int p3] : List Value).toArray below meth c H locs 0 0 (MQ below (va_Qv (fun (u : SR) => u = f_X4_setChannelByHand M p1 p2 p3 ∧ (WF u)) (fun u U => va_P (dC, dI) vwCl (cSt a cI u) U.heap ∧ va_D (va_A (cSt a cI M) s.heap.size) (cSt a cI u)) (va_A (cSt a cI M) s.heap.size)) ([.ref (a 0), .int p1, .int p2, .int p3] : List Value).toArray s 0 0 (va_A (cSt a cI M) s.heap.size)) (F0 m 91 ls []) := by
    intro M_91 hW_91 hR H locs ls hP hD hS hl
    rw [f_X4_setChannelByHand_p91] at hR
    refine lv_iload_n hx hb dX4_setChannelByHand_91 rfl (lv_at hl 2 rfl) ?_
    refine lv_iconst (v := 1) hx hb dX4_setChannelByHand_92 (by decide) ?_
    refine lv_icmp_eq (tgt := 101) hx hb dX4_setChannelByHand_93 (by decide) (fun c1 => ?_) (fun c1 => ?_)
    · rw [if_pos c1] at hR
      refine lv_aload_n hx hb dX4_setChannelByHand_101 rfl (lv_at hl 0 rfl) ?_
      refine va_get (D := (dC, dI)) (ci := 4) (v := .ref (a 10)) (C := RX4) (T := TX4) (N := 18) hx hb hts hin4 hown hK hP 0 rfl rfl 17 (by decide) (hts (.fieldLink RX4 42 "FeedDesk$State" "fade" "LFeedDesk$Fade;") (List.mem_of_getElem? (i := 6) rfl)) (fun _ h9 => h9) rfl dX4_setChannelByHand_102 ?_
      refine lv_iload_n hx hb dX4_setChannelByHand_105 rfl (lv_at hl 1 rfl) ?_
      have hPc : va_P (dC, dI) vwCl (cFd (fun j => a (10 + j)) cI M_91) H := hP.sub [10, 11] rfl
      have hDc : va_D (va_A (cSt a cI M) s.heap.size) (cFd (fun j => a (10 + j)) cI M_91) := hD.sub [10, 11] (by decide) rfl
      have hFc : ∀ q : Nat, va_A (cFd (fun j => a (10 + j)) cI M_91) H.size q → (va_A (cSt a cI M) s.heap.size) q := va_free hD hS hA [10, 11] rfl
      refine va_callv (va_runV (As := [.int p1]) (rest := []) ⟨hx, hb, hml, hown, hts⟩ (c_X0_touch l dC dI cI cC cS (fun j => a (10 + j)) M_91 H.size p1) (cwV 1 hts gX4_setChannelByHand_X0_touch rfl rfl rfl (by decide +kernel) ⟨Nat.le_of_ble_eq_true rfl, Nat.le_of_ble_eq_true rfl⟩) (pV (q0 := 0) hK hPc hDc hN rfl rfl) rfl rfl hl.1 rfl (lv_room (Nat.le_of_ble_eq_true rfl)) dX4_setChannelByHand_106 ⟨Nat.le_of_ble_eq_true rfl, Nat.le_of_ble_eq_true rfl⟩) hS (fun q _ h => hFc q h) hFc (fun u_2 t_2 H3 locs ht hvm hw hB hz1 hk1 hS => ?_)
      obtain ⟨hw, hens4⟩ := hw
      obtain ⟨hP1, hD1⟩ := hB
      rw [ht] at hP1
      subst hw
      obtain ⟨hP, hD⟩ := va_join (wc := cFd (fun j => a (10 + j)) cI M_91) (wr := [(a 0, .inr (4, [.ref (a 1), .ref (a 2), .ref (a 3), .int (M_91 10 0), .int (M_91 10 1), .int (M_91 10 2), .ref (a 4), .ref (a 5), .ref (a 6), .ref (a 7), .ref (a 8), .int (M_91 10 3), .int (M_91 10 4), .int (M_91 10 5), .int (M_91 10 6), .ref (a 9), .int (M_91 10 7), .ref (a 10)])), (a 1, .inl (cI, 12, .inl (M_91 0))), (a 2, .inl (cI, 16, .inl (M_91 1))), (a 3, .inl (cI, 12, .inl (M_91 2))), (a 4, .inl (cI, 48, .inl (M_91 3))), (a 5, .inl (cI, 4, .inl (M_91 4))), (a 6, .inl (cI, 4, .inl (M_91 5))), (a 7, .inl (cI, 12, .inl (M_91 6))), (a 8, .inl (cI, 4, .inl (M_91 7))), (a 9, .inl (cI, 102, .inl (M_91 8)))]) (w1 := cFd (fun j => a (10 + j)) cI (f_X0_touch M_91 p1)) hP hD [10, 11] [0, 1, 2, 3, 4, 5, 6, 7, 8, 9] rfl rfl (by decide) (by decide) hk1 hFc hP1 hD1
      have hP : va_P (dC, dI) vwCl (cSt a cI (mFd M_91 (f_X0_touch M_91 p1))) H3 := hP.sub [0, 1, 2, 3, 4, 5, 6, 7, 8, 9, 10, 11] rfl
      have hD : va_D (va_A (cSt a cI M) s.heap.size) (cSt a cI (mFd M_91 (f_X0_touch M_91 p1))) := hD.sub [0, 1, 2, 3, 4, 5, 6, 7, 8, 9, 10, 11] (by decide) rfl
      obtain ⟨Mn5, eMn5⟩ : ∃ z : SR, z = mFd M_91 (f_X0_touch M_91 p1) := ⟨_, rfl⟩
      rw [sLet_eq, ← eMn5] at hR
      rw [← eMn5] at hP hD
      have hW6 : WF Mn5 := (by rw [eMn5]; exact wf_fd hW_91 hens4)
      exact W.vret hx hb hr (fun t ht hWw => ⟨⟨Mn5, rfl, ⟨hR.symm.trans eR, hW6⟩, by rw [ht]; exact hP, hD⟩, hS.F ht⟩) hS.2.2 dX4_setChannelByHand_109
    · rw [if_neg c1] at hR
      refine lv_iload_n hx hb dX4_setChannelByHand_96 rfl (lv_at hl 2 rfl) ?_
      refine lv_iconst (v := 2) hx hb dX4_setChannelByHand_97 (by decide) ?_
      refine lv_icmp_ne (tgt := 109) hx hb dX4_setChannelByHand_98 (by decide) (fun c7 => ?_) (fun c7 => ?_)
      · rw [if_neg c7] at hR
        exact W.vret hx hb hr (fun t ht hWw => ⟨⟨M_91, rfl, ⟨hR.symm.trans eR, hW_91⟩, by rw [ht]; exact hP, hD⟩, hS.F ht⟩) hS.2.2 dX4_setChannelByHand_109
      · rw [if_pos c7] at hR
        refine lv_aload_n hx hb dX4_setChannelByHand_101 rfl (lv_at hl 0 rfl) ?_
        refine va_get (D := (dC, dI)) (ci := 4) (v := .ref (a 10)) (C := RX4) (T := TX4) (N := 18) hx hb hts hin4 hown hK hP 0 rfl rfl 17 (by decide) (hts (.fieldLink RX4 42 "FeedDesk$State" "fade" "LFeedDesk$Fade;") (List.mem_of_getElem? (i := 6) rfl)) (fun _ h9 => h9) rfl dX4_setChannelByHand_102 ?_
        refine lv_iload_n hx hb dX4_setChannelByHand_105 rfl (lv_at hl 1 rfl) ?_
        have hPc : va_P (dC, dI) vwCl (cFd (fun j => a (10 + j)) cI M_91) H := hP.sub [10, 11] rfl
        have hDc : va_D (va_A (cSt a cI M) s.heap.size) (cFd (fun j => a (10 + j)) cI M_91) := hD.sub [10, 11] (by decide) rfl
        have hFc : ∀ q : Nat, va_A (cFd (fun j => a (10 + j)) cI M_91) H.size q → (va_A (cSt a cI M) s.heap.size) q := va_free hD hS hA [10, 11] rfl
        refine va_callv (va_runV (As := [.int p1]) (rest := []) ⟨hx, hb, hml, hown, hts⟩ (c_X0_touch l dC dI cI cC cS (fun j => a (10 + j)) M_91 H.size p1) (cwV 1 hts gX4_setChannelByHand_X0_touch rfl rfl rfl (by decide +kernel) ⟨Nat.le_of_ble_eq_true rfl, Nat.le_of_ble_eq_true rfl⟩) (pV (q0 := 0) hK hPc hDc hN rfl rfl) rfl rfl hl.1 rfl (lv_room (Nat.le_of_ble_eq_true rfl)) dX4_setChannelByHand_106 ⟨Nat.le_of_ble_eq_true rfl, Nat.le_of_ble_eq_true rfl⟩) hS (fun q _ h => hFc q h) hFc (fun u_8 t_8 H9 locs ht hvm hw hB hz1 hk1 hS => ?_)
        obtain ⟨hw, hens10⟩ := hw
        obtain ⟨hP1, hD1⟩ := hB
        rw [ht] at hP1
        subst hw
        obtain ⟨hP, hD⟩ := va_join (wc := cFd (fun j => a (10 + j)) cI M_91) (wr := [(a 0, .inr (4, [.ref (a 1), .ref (a 2), .ref (a 3), .int (M_91 10 0), .int (M_91 10 1), .int (M_91 10 2), .ref (a 4), .ref (a 5), .ref (a 6), .ref (a 7), .ref (a 8), .int (M_91 10 3), .int (M_91 10 4), .int (M_91 10 5), .int (M_91 10 6), .ref (a 9), .int (M_91 10 7), .ref (a 10)])), (a 1, .inl (cI, 12, .inl (M_91 0))), (a 2, .inl (cI, 16, .inl (M_91 1))), (a 3, .inl (cI, 12, .inl (M_91 2))), (a 4, .inl (cI, 48, .inl (M_91 3))), (a 5, .inl (cI, 4, .inl (M_91 4))), (a 6, .inl (cI, 4, .inl (M_91 5))), (a 7, .inl (cI, 12, .inl (M_91 6))), (a 8, .inl (cI, 4, .inl (M_91 7))), (a 9, .inl (cI, 102, .inl (M_91 8)))]) (w1 := cFd (fun j => a (10 + j)) cI (f_X0_touch M_91 p1)) hP hD [10, 11] [0, 1, 2, 3, 4, 5, 6, 7, 8, 9] rfl rfl (by decide) (by decide) hk1 hFc hP1 hD1
        have hP : va_P (dC, dI) vwCl (cSt a cI (mFd M_91 (f_X0_touch M_91 p1))) H9 := hP.sub [0, 1, 2, 3, 4, 5, 6, 7, 8, 9, 10, 11] rfl
        have hD : va_D (va_A (cSt a cI M) s.heap.size) (cSt a cI (mFd M_91 (f_X0_touch M_91 p1))) := hD.sub [0, 1, 2, 3, 4, 5, 6, 7, 8, 9, 10, 11] (by decide) rfl
        obtain ⟨Mn11, eMn11⟩ : ∃ z : SR, z = mFd M_91 (f_X0_touch M_91 p1) := ⟨_, rfl⟩
        rw [sLet_eq, ← eMn11] at hR
        rw [← eMn11] at hP hD
        have hW12 : WF Mn11 := (by rw [eMn11]; exact wf_fd hW_91 hens10)
        exact W.vret hx hb hr (fun t ht hWw => ⟨⟨Mn11, rfl, ⟨hR.symm.trans eR, hW12⟩, by rw [ht]; exact hP, hD⟩, hS.F ht⟩) hS.2.2 dX4_setChannelByHand_109
  rcases Decidable.em (p2 = 0) with c13 | c13
  · rw [if_pos c13] at hR
    refine lv_tableIn (tgt := 32) hx hb dX4_setChannelByHand_1 (by rw [c13]; decide) (by rw [c13]; decide) (by rw [c13]; rfl) (by decide) ?_
    refine lv_aload_n hx hb dX4_setChannelByHand_32 rfl (lv_at hl 0 rfl) ?_
    refine va_get (D := (dC, dI)) (ci := 4) (v := .ref (a 1)) (C := RX4) (T := TX4) (N := 18) hx hb hts hin4 hown hK hP 0 rfl rfl 0 (by decide) (hts (.fieldLink RX4 9 "FeedDesk$State" "input" "[I") (List.mem_of_getElem? (i := 1) rfl)) (fun _ h9 => h9) rfl dX4_setChannelByHand_33 ?_
    refine lv_iload_n hx hb dX4_setChannelByHand_36 rfl (lv_at hl 1 rfl) ?_
    refine lv_iload_n hx hb dX4_setChannelByHand_37 rfl (lv_at hl 3 rfl) ?_
    refine va_iast (f := M 0) hx hb hK hP hD hS 1 0 rfl rfl h1 dX4_setChannelByHand_38 (fun H14 locs hP hD hS => ?_)
    have hP : va_P (dC, dI) vwCl (cSt a cI (sU M 0 p1.toNatClampNeg p3)) H14 := hP
    have hD : va_D (va_A (cSt a cI M) s.heap.size) (cSt a cI (sU M 0 p1.toNatClampNeg p3)) := hD
    obtain ⟨Mn15, eMn15⟩ : ∃ z : SR, z = sU M 0 p1.toNatClampNeg p3 := ⟨_, rfl⟩
    rw [sLet_eq, ← eMn15] at hR
    rw [← eMn15] at hP hD
    have hW16 : WF Mn15 := (by rw [eMn15]; exact hW)
    refine lv_goto (tgt := 91) hx hb dX4_setChannelByHand_39 (by decide) ?_
    exact hJ_91 Mn15 hW16 hR _ _ _ hP hD hS (lv_sub hl [0, 1, 2, 3] rfl)
  · rw [if_neg c13] at hR
    rcases Decidable.em (p2 = 1) with c17 | c17
    · rw [if_pos c17] at hR
      refine lv_tableIn (tgt := 42) hx hb dX4_setChannelByHand_1 (by rw [c17]; decide) (by rw [c17]; decide) (by rw [c17]; rfl) (by decide) ?_
      refine lv_aload_n hx hb dX4_setChannelByHand_42 rfl (lv_at hl 0 rfl) ?_
      refine va_get (D := (dC, dI)) (ci := 4) (v := .ref (a 2)) (C := RX4) (T := TX4) (N := 18) hx hb hts hin4 hown hK hP 0 rfl rfl 1 (by decide) (hts (.fieldLink RX4 15 "FeedDesk$State" "sliders" "[I") (List.mem_of_getElem? (i := 2) rfl)) (fun _ h9 => h9) rfl dX4_setChannelByHand_43 ?_
      refine lv_iload_n hx hb dX4_setChannelByHand_46 rfl (lv_at hl 1 rfl) ?_
      refine lv_iload_n hx hb dX4_setChannelByHand_47 rfl (lv_at hl 3 rfl) ?_
      refine va_iast (f := M 1) hx hb hK hP hD hS 2 0 rfl rfl (vp_mono h1 (by decide)) dX4_setChannelByHand_48 (fun H18 locs hP hD hS => ?_)
      have hP : va_P (dC, dI) vwCl (cSt a cI (sU M 1 p1.toNatClampNeg p3)) H18 := hP
      have hD : va_D (va_A (cSt a cI M) s.heap.size) (cSt a cI (sU M 1 p1.toNatClampNeg p3)) := hD
      obtain ⟨Mn19, eMn19⟩ : ∃ z : SR, z = sU M 1 p1.toNatClampNeg p3 := ⟨_, rfl⟩
      rw [sLet_eq, ← eMn19] at hR
      rw [← eMn19] at hP hD
      have hW20 : WF Mn19 := (by rw [eMn19]; exact hW)
      refine lv_goto (tgt := 91) hx hb dX4_setChannelByHand_49 (by decide) ?_
      exact hJ_91 Mn19 hW20 hR _ _ _ hP hD hS (lv_sub hl [0, 1, 2, 3] rfl)
    · rw [if_neg c17] at hR
      rcases Decidable.em (p2 = 2) with c21 | c21
      · rw [if_pos c21] at hR
        refine lv_tableIn (tgt := 52) hx hb dX4_setChannelByHand_1 (by rw [c21]; decide) (by rw [c21]; decide) (by rw [c21]; rfl) (by decide) ?_
        refine lv_aload_n hx hb dX4_setChannelByHand_52 rfl (lv_at hl 0 rfl) ?_
        refine lv_aload_n hx hb dX4_setChannelByHand_53 rfl (lv_at hl 0 rfl) ?_
        refine va_get (D := (dC, dI)) (ci := 4) (v := .int (M 10 0)) (C := RX4) (T := TX4) (N := 18) hx hb hts hin4 hown hK hP 0 rfl rfl 3 (by decide) (hts (.fieldLink RX4 52 "FeedDesk$State" "muted" "I") (List.mem_of_getElem? (i := 3) rfl)) (fun _ h9 => h9) rfl dX4_setChannelByHand_54 ?_
        refine lv_iload_n hx hb dX4_setChannelByHand_57 rfl (lv_at hl 1 rfl) ?_
        refine lv_iload_n hx hb dX4_setChannelByHand_58 rfl (lv_at hl 3 rfl) ?_
        have hFc : ∀ q : Nat, va_A [] s.heap.size q → (va_A (cSt a cI M) s.heap.size) q := roF hS hA
        refine va_calli (va_runSN (As := [.int (M 10 0), .int p1, .int p3]) (rest := [.ref (a 0)]) ⟨hx, hb, hml, hown, hts⟩ (c_X5_withBit l dC dI cI cC cS s.heap.size (M 10 0) p1 p3) ⟨va_cnB 3 hts gX4_setChannelByHand_X5_withBit_n85 rfl rfl rfl (hN.at 3 rfl) (hts (.initialized RX5) (List.mem_of_getElem? (i := 8) rfl)) (by decide +kernel) ⟨Nat.le_of_ble_eq_true rfl, Nat.le_of_ble_eq_true rfl⟩, (hts (.static yX5_withBit) (List.mem_of_getElem? (i := 7) rfl)), trivial⟩ (pS hK (va_P_nil) (va_D_nil) hN) rfl rfl hl.1 rfl (lv_room (Nat.le_of_ble_eq_true rfl)) dX4_setChannelByHand_59 ⟨Nat.le_of_ble_eq_true rfl, Nat.le_of_ble_eq_true rfl⟩) hS (fun q _ h => hFc q h) hFc (fun r_22 u_22 t_22 H23 locs ht hvm hw hB hz1 hk1 hS => ?_)
        subst hw
        have hP := ro_keep hP hk1
        refine va_put (D := (dC, dI)) (ci := 4) (v := .int (f_X5_withBit (M 10 0) p1 p3)) (ty := .int) (C := RX4) (T := TX4) (N := 18) hx hb hts hin4 tyX4 tyX4_ok nmX4 hown hK hP hD hS 0 rfl rfl 3 (by decide) (hts (.fieldLink RX4 52 "FeedDesk$State" "muted" "I") (List.mem_of_getElem? (i := 3) rfl)) (fun _ h9 => h9) rfl (by decide +kernel) rfl rfl (Nat.le_of_ble_eq_true rfl) dX4_setChannelByHand_62 (fun H24 locs hP hD hS => ?_)
        have hP : va_P (dC, dI) vwCl (cSt a cI (sU M 10 0 (f_X5_withBit (M 10 0) p1 p3))) H24 := hP
        have hD : va_D (va_A (cSt a cI M) s.heap.size) (cSt a cI (sU M 10 0 (f_X5_withBit (M 10 0) p1 p3))) := hD
        obtain ⟨Mn25, eMn25⟩ : ∃ z : SR, z = sU M 10 0 (f_X5_withBit (M 10 0) p1 p3) := ⟨_, rfl⟩
        rw [sLet_eq, ← eMn25] at hR
        rw [← eMn25] at hP hD
        have hW26 : WF Mn25 := (by rw [eMn25]; exact hW)
        refine lv_goto (tgt := 91) hx hb dX4_setChannelByHand_65 (by decide) ?_
        exact hJ_91 Mn25 hW26 hR _ _ _ hP hD hS (lv_sub hl [0, 1, 2, 3] rfl)
      · rw [if_neg c21] at hR
        rcases Decidable.em (p2 = 3) with c27 | c27
        · rw [if_pos c27] at hR
          refine lv_tableIn (tgt := 68) hx hb dX4_setChannelByHand_1 (by rw [c27]; decide) (by rw [c27]; decide) (by rw [c27]; rfl) (by decide) ?_
          refine lv_aload_n hx hb dX4_setChannelByHand_68 rfl (lv_at hl 0 rfl) ?_
          refine lv_aload_n hx hb dX4_setChannelByHand_69 rfl (lv_at hl 0 rfl) ?_
          refine va_get (D := (dC, dI)) (ci := 4) (v := .int (M 10 1)) (C := RX4) (T := TX4) (N := 18) hx hb hts hin4 hown hK hP 0 rfl rfl 4 (by decide) (hts (.fieldLink RX4 56 "FeedDesk$State" "safe" "I") (List.mem_of_getElem? (i := 4) rfl)) (fun _ h9 => h9) rfl dX4_setChannelByHand_70 ?_
          refine lv_iload_n hx hb dX4_setChannelByHand_73 rfl (lv_at hl 1 rfl) ?_
          refine lv_iload_n hx hb dX4_setChannelByHand_74 rfl (lv_at hl 3 rfl) ?_
          have hFc : ∀ q : Nat, va_A [] s.heap.size q → (va_A (cSt a cI M) s.heap.size) q := roF hS hA
          refine va_calli (va_runSN (As := [.int (M 10 1), .int p1, .int p3]) (rest := [.ref (a 0)]) ⟨hx, hb, hml, hown, hts⟩ (c_X5_withBit l dC dI cI cC cS s.heap.size (M 10 1) p1 p3) ⟨va_cnB 3 hts gX4_setChannelByHand_X5_withBit_n85 rfl rfl rfl (hN.at 3 rfl) (hts (.initialized RX5) (List.mem_of_getElem? (i := 8) rfl)) (by decide +kernel) ⟨Nat.le_of_ble_eq_true rfl, Nat.le_of_ble_eq_true rfl⟩, (hts (.static yX5_withBit) (List.mem_of_getElem? (i := 7) rfl)), trivial⟩ (pS hK (va_P_nil) (va_D_nil) hN) rfl rfl hl.1 rfl (lv_room (Nat.le_of_ble_eq_true rfl)) dX4_setChannelByHand_75 ⟨Nat.le_of_ble_eq_true rfl, Nat.le_of_ble_eq_true rfl⟩) hS (fun q _ h => hFc q h) hFc (fun r_28 u_28 t_28 H29 locs ht hvm hw hB hz1 hk1 hS => ?_)
          subst hw
          have hP := ro_keep hP hk1
          refine va_put (D := (dC, dI)) (ci := 4) (v := .int (f_X5_withBit (M 10 1) p1 p3)) (ty := .int) (C := RX4) (T := TX4) (N := 18) hx hb hts hin4 tyX4 tyX4_ok nmX4 hown hK hP hD hS 0 rfl rfl 4 (by decide) (hts (.fieldLink RX4 56 "FeedDesk$State" "safe" "I") (List.mem_of_getElem? (i := 4) rfl)) (fun _ h9 => h9) rfl (by decide +kernel) rfl rfl (Nat.le_of_ble_eq_true rfl) dX4_setChannelByHand_78 (fun H30 locs hP hD hS => ?_)
          have hP : va_P (dC, dI) vwCl (cSt a cI (sU M 10 1 (f_X5_withBit (M 10 1) p1 p3))) H30 := hP
          have hD : va_D (va_A (cSt a cI M) s.heap.size) (cSt a cI (sU M 10 1 (f_X5_withBit (M 10 1) p1 p3))) := hD
          obtain ⟨Mn31, eMn31⟩ : ∃ z : SR, z = sU M 10 1 (f_X5_withBit (M 10 1) p1 p3) := ⟨_, rfl⟩
          rw [sLet_eq, ← eMn31] at hR
          rw [← eMn31] at hP hD
          have hW32 : WF Mn31 := (by rw [eMn31]; exact hW)
          refine lv_goto (tgt := 91) hx hb dX4_setChannelByHand_81 (by decide) ?_
          exact hJ_91 Mn31 hW32 hR _ _ _ hP hD hS (lv_sub hl [0, 1, 2, 3] rfl)
        · rw [if_neg c27] at hR
          have tz0 : ¬ p2.toInt = 0 := fun h => c13 (Int32.toInt_inj.mp (h.trans (by decide)))
          have tz1 : ¬ p2.toInt = 1 := fun h => c17 (Int32.toInt_inj.mp (h.trans (by decide)))
          have tz2 : ¬ p2.toInt = 2 := fun h => c21 (Int32.toInt_inj.mp (h.trans (by decide)))
          have tz3 : ¬ p2.toInt = 3 := fun h => c27 (Int32.toInt_inj.mp (h.trans (by decide)))
          refine lv_tableOut (tgt := 84) hx hb dX4_setChannelByHand_1 (by omega) (by decide) ?_
          refine lv_aload_n hx hb dX4_setChannelByHand_84 rfl (lv_at hl 0 rfl) ?_
          refine va_get (D := (dC, dI)) (ci := 4) (v := .ref (a 3)) (C := RX4) (T := TX4) (N := 18) hx hb hts hin4 hown hK hP 0 rfl rfl 2 (by decide) (hts (.fieldLink RX4 18 "FeedDesk$State" "groups" "[I") (List.mem_of_getElem? (i := 5) rfl)) (fun _ h9 => h9) rfl dX4_setChannelByHand_85 ?_
          refine lv_iload_n hx hb dX4_setChannelByHand_88 rfl (lv_at hl 1 rfl) ?_
          refine lv_iload_n hx hb dX4_setChannelByHand_89 rfl (lv_at hl 3 rfl) ?_
          refine va_iast (f := M 2) hx hb hK hP hD hS 3 0 rfl rfl h1 dX4_setChannelByHand_90 (fun H33 locs hP hD hS => ?_)
          have hP : va_P (dC, dI) vwCl (cSt a cI (sU M 2 p1.toNatClampNeg p3)) H33 := hP
          have hD : va_D (va_A (cSt a cI M) s.heap.size) (cSt a cI (sU M 2 p1.toNatClampNeg p3)) := hD
          obtain ⟨Mn34, eMn34⟩ : ∃ z : SR, z = sU M 2 p1.toNatClampNeg p3 := ⟨_, rfl⟩
          rw [sLet_eq, ← eMn34] at hR
          rw [← eMn34] at hP hD
          have hW35 : WF Mn34 := (by rw [eMn34]; exact hW)
          exact hJ_91 Mn34 hW35 hR _ _ _ hP hD hS (lv_sub hl [0, 1, 2, 3] rfl)
abbrev rm_X4_setGroupByHand : Room := { frames := 2, cells := 0, slots := 0, locals := 41 }
def f_X4_setGroupByHand (M : SR) (p1 : Int32) (p2 : Int32) (p3 : Int32) : SR := (if p2 = 1 then sLet (sU M 10 2 (f_X5_withBit (M 10 2) p1 p3)) (fun Mn13 : SR => Mn13) else sLet (sU M 1 (12 + p1).toNatClampNeg p3) (fun Mn3 : SR => sLet (mFd Mn3 (f_X0_touch Mn3 (12 + p1))) (fun Mn8 : SR => Mn8)))
set_option maxHeartbeats 4000000 in
set_option maxRecDepth 100000 in
theorem c_X4_setGroupByHand (l : Launch) (dC : Nat → ClassId) (dI : Nat → Nat → Nat) (cI cC cS : ClassId) (a : Nat → Nat) (M : SR) (sz : Nat) (p1 : Int32) (p2 : Int32) (p3 : Int32) (h1 : vp_in p1 4) (hW : WF M) : Met l yX4_setGroupByHand wsX4_setGroupByHand rm_X4_setGroupByHand (PcG (dC, dI) (tyL cI cC cS) (cSt a cI M) sz [.ref (a 0), .int p1, .int p2, .int p3]) (va_Qv (fun (u : SR) => u = f_X4_setGroupByHand M p1 p2 p3 ∧ (WF u)) (fun u U => va_P (dC, dI) vwCl (cSt a cI u) U.heap ∧ va_D (va_A (cSt a cI M) sz) (cSt a cI u)) (va_A (cSt a cI M) sz)) 0 0 (va_A (cSt a cI M) sz) := by
  refine Met.ofW (cc := cX4_setGroupByHand) (maxL := 4) (ret := none) (by decide) rfl ?_
  intro p e s m args below meth c s₁ B hml hv
  obtain ⟨rfl, hsz, hP, hK, hD0, hN⟩ := hv
  have hx := B.exec
  have hb := B.bytes
  have hr := B.returns
  have hts := atoms_spec (ws := wsX4_setGroupByHand) B.pre
  have hown : s.vm.findClass RX4 = some m.cls := findClass_of_methodNamed B.named
  have hlocks := B.notSynchronized
  subst hsz
  have hD := hD0.self (sz := s.heap.size)
  have hA : ∀ q : Nat, s.heap.size ≤ q → (va_A (cSt a cI M) s.heap.size) q := fun q h => Or.inr h
  have hS : va_S (va_A (cSt a cI M) s.heap.size) s.heap s.heap [] := va_S.rf
  have hin4 : ∀ w ∈ wsX40, w ∈ wsX4_setGroupByHand := fun _ h => List.mem_cons_of_mem _ (List.mem_append_left _ (List.mem_append_right _ h))
  obtain ⟨ip1, hip1, ep1⟩ := vp_in_of h1 (by decide)
  have hl := lv_entry [.ref (a 0), .int p1, .int p2, .int p3] (n := 4) (Nat.le_of_ble_eq_true rfl)
  rw [lg_entry_eq]
  generalize (lg_sl [.ref (a 0), .int p1, .int p2, .int p3] ++ List.replicate (4 - (lg_sl [.ref (a 0), .int p1, .int p2, .int p3]).length) Slot.unset).toArray = ls at hl ⊢
  have hl : lv_has ls 4 [(0, .ref (a 0)), (1, .int p1), (2, .int p2), (3, .int p3)] := hl
  obtain ⟨R0, eR⟩ : ∃ z, z = f_X4_setGroupByHand M p1 p2 p3 := ⟨_, rfl⟩
  have hR := eR
  rw [f_X4_setGroupByHand] at hR
  refine lv_iload_n hx hb dX4_setGroupByHand_0 rfl (lv_at hl 2 rfl) ?_
  refine lv_iconst (v := 1) hx hb dX4_setGroupByHand_1 (by decide) ?_
  refine lv_icmp_ne (tgt := 19) hx hb dX4_setGroupByHand_2 (by decide) (fun c1 => ?_) (fun c1 => ?_)
  · rw [if_neg c1] at hR
    refine lv_aload_n hx hb dX4_setGroupByHand_19 rfl (lv_at hl 0 rfl) ?_
    refine va_get (D := (dC, dI)) (ci := 4) (v := .ref (a 2)) (C := RX4) (T := TX4) (N := 18) hx hb hts hin4 hown hK hP 0 rfl rfl 1 (by decide) (hts (.fieldLink RX4 15 "FeedDesk$State" "sliders" "[I") (List.mem_of_getElem? (i := 2) rfl)) (fun _ h9 => h9) rfl dX4_setGroupByHand_20 ?_
    refine lv_bipush (v := 12) hx hb dX4_setGroupByHand_23 (by decide) ?_
    refine lv_iload_n hx hb dX4_setGroupByHand_25 rfl (lv_at hl 1 rfl) ?_
    refine lv_iadd hx hb dX4_setGroupByHand_26 ?_
    refine lv_iload_n hx hb dX4_setGroupByHand_27 rfl (lv_at hl 3 rfl) ?_
    refine va_iast (f := M 1) hx hb hK hP hD hS 2 0 rfl rfl (by rw [ep1]; exact vp_of_B (ix_0 ip1 hip1)) dX4_setGroupByHand_28 (fun H2 locs hP hD hS => ?_)
    have hP : va_P (dC, dI) vwCl (cSt a cI (sU M 1 (12 + p1).toNatClampNeg p3)) H2 := hP
    have hD : va_D (va_A (cSt a cI M) s.heap.size) (cSt a cI (sU M 1 (12 + p1).toNatClampNeg p3)) := hD
    obtain ⟨Mn3, eMn3⟩ : ∃ z : SR, z = sU M 1 (12 + p1).toNatClampNeg p3 := ⟨_, rfl⟩
    rw [sLet_eq, ← eMn3] at hR
    rw [← eMn3] at hP hD
    have hW4 : WF Mn3 := (by rw [eMn3]; exact hW)
    refine lv_aload_n hx hb dX4_setGroupByHand_29 rfl (lv_at hl 0 rfl) ?_
    refine va_get (D := (dC, dI)) (ci := 4) (v := .ref (a 10)) (C := RX4) (T := TX4) (N := 18) hx hb hts hin4 hown hK hP 0 rfl rfl 17 (by decide) (hts (.fieldLink RX4 42 "FeedDesk$State" "fade" "LFeedDesk$Fade;") (List.mem_of_getElem? (i := 3) rfl)) (fun _ h9 => h9) rfl dX4_setGroupByHand_30 ?_
    refine lv_bipush (v := 12) hx hb dX4_setGroupByHand_33 (by decide) ?_
    refine lv_iload_n hx hb dX4_setGroupByHand_35 rfl (lv_at hl 1 rfl) ?_
    refine lv_iadd hx hb dX4_setGroupByHand_36 ?_
    have hPc : va_P (dC, dI) vwCl (cFd (fun j => a (10 + j)) cI Mn3) H2 := hP.sub [10, 11] rfl
    have hDc : va_D (va_A (cSt a cI M) s.heap.size) (cFd (fun j => a (10 + j)) cI Mn3) := hD.sub [10, 11] (by decide) rfl
    have hFc : ∀ q : Nat, va_A (cFd (fun j => a (10 + j)) cI Mn3) H2.size q → (va_A (cSt a cI M) s.heap.size) q := va_free hD hS hA [10, 11] rfl
    refine va_callv (va_runV (As := [.int (12 + p1)]) (rest := []) ⟨hx, hb, hml, hown, hts⟩ (c_X0_touch l dC dI cI cC cS (fun j => a (10 + j)) Mn3 H2.size (12 + p1)) (cwV 1 hts gX4_setGroupByHand_X0_touch rfl rfl rfl (by decide +kernel) ⟨Nat.le_of_ble_eq_true rfl, Nat.le_of_ble_eq_true rfl⟩) (pV (q0 := 0) hK hPc hDc hN rfl rfl) rfl rfl hl.1 rfl (lv_room (Nat.le_of_ble_eq_true rfl)) dX4_setGroupByHand_37 ⟨Nat.le_of_ble_eq_true rfl, Nat.le_of_ble_eq_true rfl⟩) hS (fun q _ h => hFc q h) hFc (fun u_5 t_5 H6 locs ht hvm hw hB hz1 hk1 hS => ?_)
    obtain ⟨hw, hens7⟩ := hw
    obtain ⟨hP1, hD1⟩ := hB
    rw [ht] at hP1
    subst hw
    obtain ⟨hP, hD⟩ := va_join (wc := cFd (fun j => a (10 + j)) cI Mn3) (wr := [(a 0, .inr (4, [.ref (a 1), .ref (a 2), .ref (a 3), .int (Mn3 10 0), .int (Mn3 10 1), .int (Mn3 10 2), .ref (a 4), .ref (a 5), .ref (a 6), .ref (a 7), .ref (a 8), .int (Mn3 10 3), .int (Mn3 10 4), .int (Mn3 10 5), .int (Mn3 10 6), .ref (a 9), .int (Mn3 10 7), .ref (a 10)])), (a 1, .inl (cI, 12, .inl (Mn3 0))), (a 2, .inl (cI, 16, .inl (Mn3 1))), (a 3, .inl (cI, 12, .inl (Mn3 2))), (a 4, .inl (cI, 48, .inl (Mn3 3))), (a 5, .inl (cI, 4, .inl (Mn3 4))), (a 6, .inl (cI, 4, .inl (Mn3 5))), (a 7, .inl (cI, 12, .inl (Mn3 6))), (a 8, .inl (cI, 4, .inl (Mn3 7))), (a 9, .inl (cI, 102, .inl (Mn3 8)))]) (w1 := cFd (fun j => a (10 + j)) cI (f_X0_touch Mn3 (12 + p1))) hP hD [10, 11] [0, 1, 2, 3, 4, 5, 6, 7, 8, 9] rfl rfl (by decide) (by decide) hk1 hFc hP1 hD1
    have hP : va_P (dC, dI) vwCl (cSt a cI (mFd Mn3 (f_X0_touch Mn3 (12 + p1)))) H6 := hP.sub [0, 1, 2, 3, 4, 5, 6, 7, 8, 9, 10, 11] rfl
    have hD : va_D (va_A (cSt a cI M) s.heap.size) (cSt a cI (mFd Mn3 (f_X0_touch Mn3 (12 + p1)))) := hD.sub [0, 1, 2, 3, 4, 5, 6, 7, 8, 9, 10, 11] (by decide) rfl
    obtain ⟨Mn8, eMn8⟩ : ∃ z : SR, z = mFd Mn3 (f_X0_touch Mn3 (12 + p1)) := ⟨_, rfl⟩
    rw [sLet_eq, ← eMn8] at hR
    rw [← eMn8] at hP hD
    have hW9 : WF Mn8 := (by rw [eMn8]; exact wf_fd hW4 hens7)
    exact W.vret hx hb hr (fun t ht hWw => ⟨⟨Mn8, rfl, ⟨hR.symm.trans eR, hW9⟩, by rw [ht]; exact hP, hD⟩, hS.F ht⟩) hS.2.2 dX4_setGroupByHand_40
  · rw [if_pos c1] at hR
    refine lv_aload_n hx hb dX4_setGroupByHand_5 rfl (lv_at hl 0 rfl) ?_
    refine lv_aload_n hx hb dX4_setGroupByHand_6 rfl (lv_at hl 0 rfl) ?_
    refine va_get (D := (dC, dI)) (ci := 4) (v := .int (M 10 2)) (C := RX4) (T := TX4) (N := 18) hx hb hts hin4 hown hK hP 0 rfl rfl 5 (by decide) (hts (.fieldLink RX4 59 "FeedDesk$State" "soloed" "I") (List.mem_of_getElem? (i := 1) rfl)) (fun _ h9 => h9) rfl dX4_setGroupByHand_7 ?_
    refine lv_iload_n hx hb dX4_setGroupByHand_10 rfl (lv_at hl 1 rfl) ?_
    refine lv_iload_n hx hb dX4_setGroupByHand_11 rfl (lv_at hl 3 rfl) ?_
    have hFc : ∀ q : Nat, va_A [] s.heap.size q → (va_A (cSt a cI M) s.heap.size) q := roF hS hA
    refine va_calli (va_runSN (As := [.int (M 10 2), .int p1, .int p3]) (rest := [.ref (a 0)]) ⟨hx, hb, hml, hown, hts⟩ (c_X5_withBit l dC dI cI cC cS s.heap.size (M 10 2) p1 p3) ⟨va_cnB 3 hts gX4_setGroupByHand_X5_withBit_n85 rfl rfl rfl (hN.at 3 rfl) (hts (.initialized RX5) (List.mem_of_getElem? (i := 5) rfl)) (by decide +kernel) ⟨Nat.le_of_ble_eq_true rfl, Nat.le_of_ble_eq_true rfl⟩, (hts (.static yX5_withBit) (List.mem_of_getElem? (i := 4) rfl)), trivial⟩ (pS hK (va_P_nil) (va_D_nil) hN) rfl rfl hl.1 rfl (lv_room (Nat.le_of_ble_eq_true rfl)) dX4_setGroupByHand_12 ⟨Nat.le_of_ble_eq_true rfl, Nat.le_of_ble_eq_true rfl⟩) hS (fun q _ h => hFc q h) hFc (fun r_10 u_10 t_10 H11 locs ht hvm hw hB hz1 hk1 hS => ?_)
    subst hw
    have hP := ro_keep hP hk1
    refine va_put (D := (dC, dI)) (ci := 4) (v := .int (f_X5_withBit (M 10 2) p1 p3)) (ty := .int) (C := RX4) (T := TX4) (N := 18) hx hb hts hin4 tyX4 tyX4_ok nmX4 hown hK hP hD hS 0 rfl rfl 5 (by decide) (hts (.fieldLink RX4 59 "FeedDesk$State" "soloed" "I") (List.mem_of_getElem? (i := 1) rfl)) (fun _ h9 => h9) rfl (by decide +kernel) rfl rfl (Nat.le_of_ble_eq_true rfl) dX4_setGroupByHand_15 (fun H12 locs hP hD hS => ?_)
    have hP : va_P (dC, dI) vwCl (cSt a cI (sU M 10 2 (f_X5_withBit (M 10 2) p1 p3))) H12 := hP
    have hD : va_D (va_A (cSt a cI M) s.heap.size) (cSt a cI (sU M 10 2 (f_X5_withBit (M 10 2) p1 p3))) := hD
    obtain ⟨Mn13, eMn13⟩ : ∃ z : SR, z = sU M 10 2 (f_X5_withBit (M 10 2) p1 p3) := ⟨_, rfl⟩
    rw [sLet_eq, ← eMn13] at hR
    rw [← eMn13] at hP hD
    have hW14 : WF Mn13 := (by rw [eMn13]; exact hW)
    exact W.vret hx hb hr (fun t ht hWw => ⟨⟨Mn13, rfl, ⟨hR.symm.trans eR, hW14⟩, by rw [ht]; exact hP, hD⟩, hS.F ht⟩) hS.2.2 dX4_setGroupByHand_18
abbrev rm_X4_keepScene : Room := { frames := 1, cells := 0, slots := 0, locals := 18 }
def f_X4_keepScene (M : SR) (p1 : Int32) : SR := sLet (sR M 8 (va_cpy (M 1) (M 8) 0 (p1 * 17).toNatClampNeg 16)) (fun Mn2 : SR => sLet (sU Mn2 8 ((p1 * 17) + 16).toNatClampNeg (Mn2 10 0)) (fun Mn5 : SR => sLet (sU Mn5 10 7 ((Mn5 10 7) ||| (1 <<< (p1 &&& 31)))) (fun Mn8 : SR => Mn8)))
theorem ix_6 : ∀ q0 : Nat, q0 < 6 → vp_okB (((nI q0) * 17) + 16) 102 = true := by decide +kernel
set_option maxHeartbeats 4000000 in
set_option maxRecDepth 100000 in
theorem c_X4_keepScene (l : Launch) (dC : Nat → ClassId) (dI : Nat → Nat → Nat) (cI cC cS : ClassId) (a : Nat → Nat) (M : SR) (sz : Nat) (p1 : Int32) (h1 : vp_in p1 6) (hW : WF M) : Met l yX4_keepScene wsX4_keepScene rm_X4_keepScene (PcG (dC, dI) (tyL cI cC cS) (cSt a cI M) sz [.ref (a 0), .int p1]) (va_Qv (fun (u : SR) => u = f_X4_keepScene M p1 ∧ (WF u)) (fun u U => va_P (dC, dI) vwCl (cSt a cI u) U.heap ∧ va_D (va_A (cSt a cI M) sz) (cSt a cI u)) (va_A (cSt a cI M) sz)) 0 0 (va_A (cSt a cI M) sz) := by
  refine Met.ofW (cc := cX4_keepScene) (maxL := 2) (ret := none) (by decide) rfl ?_
  intro p e s m args below meth c s₁ B hml hv
  obtain ⟨rfl, hsz, hP, hK, hD0, hN⟩ := hv
  have hx := B.exec
  have hb := B.bytes
  have hr := B.returns
  have hts := atoms_spec (ws := wsX4_keepScene) B.pre
  have hown : s.vm.findClass RX4 = some m.cls := findClass_of_methodNamed B.named
  have hlocks := B.notSynchronized
  subst hsz
  have hD := hD0.self (sz := s.heap.size)
  have hA : ∀ q : Nat, s.heap.size ≤ q → (va_A (cSt a cI M) s.heap.size) q := fun q h => Or.inr h
  have hS : va_S (va_A (cSt a cI M) s.heap.size) s.heap s.heap [] := va_S.rf
  have hin4 : ∀ w ∈ wsX40, w ∈ wsX4_keepScene := fun _ h => List.mem_cons_of_mem _ (List.mem_append_right _ h)
  obtain ⟨ip1, hip1, ep1⟩ := vp_in_of h1 (by decide)
  have hl := lv_entry [.ref (a 0), .int p1] (n := 2) (Nat.le_of_ble_eq_true rfl)
  rw [lg_entry_eq]
  generalize (lg_sl [.ref (a 0), .int p1] ++ List.replicate (2 - (lg_sl [.ref (a 0), .int p1]).length) Slot.unset).toArray = ls at hl ⊢
  have hl : lv_has ls 2 [(0, .ref (a 0)), (1, .int p1)] := hl
  obtain ⟨R0, eR⟩ : ∃ z, z = f_X4_keepScene M p1 := ⟨_, rfl⟩
  have hR := eR
  rw [f_X4_keepScene] at hR
  refine lv_aload_n hx hb dX4_keepScene_0 rfl (lv_at hl 0 rfl) ?_
  refine va_get (D := (dC, dI)) (ci := 4) (v := .ref (a 2)) (C := RX4) (T := TX4) (N := 18) hx hb hts hin4 hown hK hP 0 rfl rfl 1 (by decide) (hts (.fieldLink RX4 15 "FeedDesk$State" "sliders" "[I") (List.mem_of_getElem? (i := 1) rfl)) (fun _ h9 => h9) rfl dX4_keepScene_1 ?_
  refine lv_iconst (v := 0) hx hb dX4_keepScene_4 (by decide) ?_
  refine lv_aload_n hx hb dX4_keepScene_5 rfl (lv_at hl 0 rfl) ?_
  refine va_get (D := (dC, dI)) (ci := 4) (v := .ref (a 9)) (C := RX4) (T := TX4) (N := 18) hx hb hts hin4 hown hK hP 0 rfl rfl 15 (by decide) (hts (.fieldLink RX4 36 "FeedDesk$State" "scenes" "[I") (List.mem_of_getElem? (i := 2) rfl)) (fun _ h9 => h9) rfl dX4_keepScene_6 ?_
  refine lv_iload_n hx hb dX4_keepScene_9 rfl (lv_at hl 1 rfl) ?_
  refine lv_bipush (v := 17) hx hb dX4_keepScene_10 (by decide) ?_
  refine lv_imul hx hb dX4_keepScene_12 ?_
  refine lv_bipush (v := 16) hx hb dX4_keepScene_13 (by decide) ?_
  refine va_copyT (h := (va_cpy (M 1) (M 8) 0 (p1 * 17).toNatClampNeg 16)) (f := M 1) (g := M 8) hx hb (hml.trans hl.1.symm) hown (hts (.methodLink RX4 46 arraycopyName) (List.mem_of_getElem? (i := 3) rfl)) (hts (.native arraycopyName) (List.mem_of_getElem? (i := 4) rfl)) (hts (.static arraycopyName) (List.mem_of_getElem? (i := 5) rfl)) (hts (.initialized "java/lang/System") (List.mem_of_getElem? (i := 6) rfl)) hK hP hD hS 2 9 0 0 rfl rfl rfl rfl rfl (by decide) (by rw [ep1]; exact (by decide +kernel : ∀ q : Nat, q < 6 → ¬ nI q * 17 < 0) ip1 hip1) (by decide) (by decide +kernel) (by rw [ep1]; exact (by decide +kernel : ∀ q : Nat, q < 6 → (nI q * 17 : Int32).toNatClampNeg + (16 : Int32).toNatClampNeg ≤ 102) ip1 hip1) (fun _ _ => rfl) (fun q hq => rfl) (Nat.le_of_ble_eq_true rfl) (Nat.le_of_ble_eq_true rfl) dX4_keepScene_15 (fun H1 locs hP hD hS => ?_)
  have hP : va_P (dC, dI) vwCl (cSt a cI (sR M 8 (va_cpy (M 1) (M 8) 0 (p1 * 17).toNatClampNeg 16))) H1 := hP
  have hD : va_D (va_A (cSt a cI M) s.heap.size) (cSt a cI (sR M 8 (va_cpy (M 1) (M 8) 0 (p1 * 17).toNatClampNeg 16))) := hD
  obtain ⟨Mn2, eMn2⟩ : ∃ z : SR, z = sR M 8 (va_cpy (M 1) (M 8) 0 (p1 * 17).toNatClampNeg 16) := ⟨_, rfl⟩
  rw [sLet_eq, ← eMn2] at hR
  rw [← eMn2] at hP hD
  have hW3 : WF Mn2 := (by rw [eMn2]; exact hW)
  refine lv_aload_n hx hb dX4_keepScene_18 rfl (lv_at hl 0 rfl) ?_
  refine va_get (D := (dC, dI)) (ci := 4) (v := .ref (a 9)) (C := RX4) (T := TX4) (N := 18) hx hb hts hin4 hown hK hP 0 rfl rfl 15 (by decide) (hts (.fieldLink RX4 36 "FeedDesk$State" "scenes" "[I") (List.mem_of_getElem? (i := 2) rfl)) (fun _ h9 => h9) rfl dX4_keepScene_19 ?_
  refine lv_iload_n hx hb dX4_keepScene_22 rfl (lv_at hl 1 rfl) ?_
  refine lv_bipush (v := 17) hx hb dX4_keepScene_23 (by decide) ?_
  refine lv_imul hx hb dX4_keepScene_25 ?_
  refine lv_bipush (v := 16) hx hb dX4_keepScene_26 (by decide) ?_
  refine lv_iadd hx hb dX4_keepScene_28 ?_
  refine lv_aload_n hx hb dX4_keepScene_29 rfl (lv_at hl 0 rfl) ?_
  refine va_get (D := (dC, dI)) (ci := 4) (v := .int (Mn2 10 0)) (C := RX4) (T := TX4) (N := 18) hx hb hts hin4 hown hK hP 0 rfl rfl 3 (by decide) (hts (.fieldLink RX4 52 "FeedDesk$State" "muted" "I") (List.mem_of_getElem? (i := 7) rfl)) (fun _ h9 => h9) rfl dX4_keepScene_30 ?_
  refine va_iast (f := Mn2 8) hx hb hK hP hD hS 9 0 rfl rfl (by rw [ep1]; exact vp_of_B (ix_6 ip1 hip1)) dX4_keepScene_33 (fun H4 locs hP hD hS => ?_)
  have hP : va_P (dC, dI) vwCl (cSt a cI (sU Mn2 8 ((p1 * 17) + 16).toNatClampNeg (Mn2 10 0))) H4 := hP
  have hD : va_D (va_A (cSt a cI M) s.heap.size) (cSt a cI (sU Mn2 8 ((p1 * 17) + 16).toNatClampNeg (Mn2 10 0))) := hD
  obtain ⟨Mn5, eMn5⟩ : ∃ z : SR, z = sU Mn2 8 ((p1 * 17) + 16).toNatClampNeg (Mn2 10 0) := ⟨_, rfl⟩
  rw [sLet_eq, ← eMn5] at hR
  rw [← eMn5] at hP hD
  have hW6 : WF Mn5 := (by rw [eMn5]; exact hW3)
  refine lv_aload_n hx hb dX4_keepScene_34 rfl (lv_at hl 0 rfl) ?_
  refine lv_dup hx hb dX4_keepScene_35 rfl ?_
  refine va_get (D := (dC, dI)) (ci := 4) (v := .int (Mn5 10 7)) (C := RX4) (T := TX4) (N := 18) hx hb hts hin4 hown hK hP 0 rfl rfl 16 (by decide) (hts (.fieldLink RX4 74 "FeedDesk$State" "stored" "I") (List.mem_of_getElem? (i := 8) rfl)) (fun _ h9 => h9) rfl dX4_keepScene_36 ?_
  refine lv_iconst (v := 1) hx hb dX4_keepScene_39 (by decide) ?_
  refine lv_iload_n hx hb dX4_keepScene_40 rfl (lv_at hl 1 rfl) ?_
  refine lv_ishl hx hb dX4_keepScene_41 ?_
  refine lv_ior hx hb dX4_keepScene_42 ?_
  refine va_put (D := (dC, dI)) (ci := 4) (v := .int ((Mn5 10 7) ||| (1 <<< (p1 &&& 31)))) (ty := .int) (C := RX4) (T := TX4) (N := 18) hx hb hts hin4 tyX4 tyX4_ok nmX4 hown hK hP hD hS 0 rfl rfl 16 (by decide) (hts (.fieldLink RX4 74 "FeedDesk$State" "stored" "I") (List.mem_of_getElem? (i := 8) rfl)) (fun _ h9 => h9) rfl (by decide +kernel) rfl rfl (Nat.le_of_ble_eq_true rfl) dX4_keepScene_43 (fun H7 locs hP hD hS => ?_)
  have hP : va_P (dC, dI) vwCl (cSt a cI (sU Mn5 10 7 ((Mn5 10 7) ||| (1 <<< (p1 &&& 31))))) H7 := hP
  have hD : va_D (va_A (cSt a cI M) s.heap.size) (cSt a cI (sU Mn5 10 7 ((Mn5 10 7) ||| (1 <<< (p1 &&& 31))))) := hD
  obtain ⟨Mn8, eMn8⟩ : ∃ z : SR, z = sU Mn5 10 7 ((Mn5 10 7) ||| (1 <<< (p1 &&& 31))) := ⟨_, rfl⟩
  rw [sLet_eq, ← eMn8] at hR
  rw [← eMn8] at hP hD
  have hW9 : WF Mn8 := (by rw [eMn8]; exact hW6)
  exact W.vret hx hb hr (fun t ht hWw => ⟨⟨Mn8, rfl, ⟨hR.symm.trans eR, hW9⟩, by rw [ht]; exact hP, hD⟩, hS.F ht⟩) hS.2.2 dX4_keepScene_46
abbrev rm_X4_beginFade : Room := { frames := 2, cells := 0, slots := 0, locals := 41 }
def f_X4_beginFade (M : SR) (p1 : Int32) (p2 : Int32) : SR := (if p2 ≤ 0 then sLet (mFd M (f_X0_end M)) (fun Mn5 : SR => sLet (sR Mn5 1 (fun q => Mn5 8 ((p1 * 17).toNatClampNeg + q))) (fun Mn8 : SR => sLet (sU Mn8 10 0 (Mn8 8 ((p1 * 17) + 16).toNatClampNeg)) (fun Mn11 : SR => Mn11))) else sLet (mFd M (f_X0_begin M (M 1) p1 p2)) (fun Mn16 : SR => Mn16))
set_option maxHeartbeats 4000000 in
set_option maxRecDepth 100000 in
theorem c_X4_beginFade (l : Launch) (dC : Nat → ClassId) (dI : Nat → Nat → Nat) (cI cC cS : ClassId) (a : Nat → Nat) (M : SR) (sz : Nat) (p1 : Int32) (p2 : Int32) (h1 : vp_in p1 6) (hW : WF M) : Met l yX4_beginFade wsX4_beginFade rm_X4_beginFade (PcG (dC, dI) (tyL cI cC cS) (cSt a cI M) sz [.ref (a 0), .int p1, .int p2]) (va_Qv (fun (u : SR) => u = f_X4_beginFade M p1 p2 ∧ (WF u)) (fun u U => va_P (dC, dI) vwCl (cSt a cI u) U.heap ∧ va_D (va_A (cSt a cI M) sz) (cSt a cI u)) (va_A (cSt a cI M) sz)) 0 0 (va_A (cSt a cI M) sz) := by
  refine Met.ofW (cc := cX4_beginFade) (maxL := 3) (ret := none) (by decide) rfl ?_
  intro p e s m args below meth c s₁ B hml hv
  obtain ⟨rfl, hsz, hP, hK, hD0, hN⟩ := hv
  have hx := B.exec
  have hb := B.bytes
  have hr := B.returns
  have hts := atoms_spec (ws := wsX4_beginFade) B.pre
  have hown : s.vm.findClass RX4 = some m.cls := findClass_of_methodNamed B.named
  have hlocks := B.notSynchronized
  subst hsz
  have hD := hD0.self (sz := s.heap.size)
  have hA : ∀ q : Nat, s.heap.size ≤ q → (va_A (cSt a cI M) s.heap.size) q := fun q h => Or.inr h
  have hS : va_S (va_A (cSt a cI M) s.heap.size) s.heap s.heap [] := va_S.rf
  have hin4 : ∀ w ∈ wsX40, w ∈ wsX4_beginFade := fun _ h => List.mem_cons_of_mem _ (List.mem_append_left _ (List.mem_append_right _ h))
  obtain ⟨ip1, hip1, ep1⟩ := vp_in_of h1 (by decide)
  have hl := lv_entry [.ref (a 0), .int p1, .int p2] (n := 3) (Nat.le_of_ble_eq_true rfl)
  rw [lg_entry_eq]
  generalize (lg_sl [.ref (a 0), .int p1, .int p2] ++ List.replicate (3 - (lg_sl [.ref (a 0), .int p1, .int p2]).length) Slot.unset).toArray = ls at hl ⊢
  have hl : lv_has ls 3 [(0, .ref (a 0)), (1, .int p1), (2, .int p2)] := hl
  obtain ⟨R0, eR⟩ : ∃ z, z = f_X4_beginFade M p1 p2 := ⟨_, rfl⟩
  have hR := eR
  rw [f_X4_beginFade] at hR
  refine lv_iload_n hx hb dX4_beginFade_0 rfl (lv_at hl 2 rfl) ?_
  refine lv_if_le (tgt := 18) hx hb dX4_beginFade_1 (by decide) (fun c1 => ?_) (fun c1 => ?_)
  · rw [if_pos c1] at hR
    refine lv_aload_n hx hb dX4_beginFade_18 rfl (lv_at hl 0 rfl) ?_
    refine va_get (D := (dC, dI)) (ci := 4) (v := .ref (a 10)) (C := RX4) (T := TX4) (N := 18) hx hb hts hin4 hown hK hP 0 rfl rfl 17 (by decide) (hts (.fieldLink RX4 42 "FeedDesk$State" "fade" "LFeedDesk$Fade;") (List.mem_of_getElem? (i := 1) rfl)) (fun _ h9 => h9) rfl dX4_beginFade_19 ?_
    have hPc : va_P (dC, dI) vwCl (cFd (fun j => a (10 + j)) cI M) s.heap := hP.sub [10, 11] rfl
    have hDc : va_D (va_A (cSt a cI M) s.heap.size) (cFd (fun j => a (10 + j)) cI M) := hD.sub [10, 11] (by decide) rfl
    have hFc : ∀ q : Nat, va_A (cFd (fun j => a (10 + j)) cI M) s.heap.size q → (va_A (cSt a cI M) s.heap.size) q := va_free hD hS hA [10, 11] rfl
    refine va_callv (va_runV (As := []) (rest := []) ⟨hx, hb, hml, hown, hts⟩ (c_X0_end l dC dI cI cC cS (fun j => a (10 + j)) M s.heap.size) (cwV 0 hts gX4_beginFade_X0_end rfl rfl rfl (by decide +kernel) ⟨Nat.le_of_ble_eq_true rfl, Nat.le_of_ble_eq_true rfl⟩) (pV (q0 := 0) hK hPc hDc hN rfl rfl) rfl rfl hl.1 rfl (lv_room (Nat.le_of_ble_eq_true rfl)) dX4_beginFade_22 ⟨Nat.le_of_ble_eq_true rfl, Nat.le_of_ble_eq_true rfl⟩) hS (fun q _ h => hFc q h) hFc (fun u_2 t_2 H3 locs ht hvm hw hB hz1 hk1 hS => ?_)
    obtain ⟨hw, hens4⟩ := hw
    obtain ⟨hP1, hD1⟩ := hB
    rw [ht] at hP1
    subst hw
    obtain ⟨hP, hD⟩ := va_join (wc := cFd (fun j => a (10 + j)) cI M) (wr := [(a 0, .inr (4, [.ref (a 1), .ref (a 2), .ref (a 3), .int (M 10 0), .int (M 10 1), .int (M 10 2), .ref (a 4), .ref (a 5), .ref (a 6), .ref (a 7), .ref (a 8), .int (M 10 3), .int (M 10 4), .int (M 10 5), .int (M 10 6), .ref (a 9), .int (M 10 7), .ref (a 10)])), (a 1, .inl (cI, 12, .inl (M 0))), (a 2, .inl (cI, 16, .inl (M 1))), (a 3, .inl (cI, 12, .inl (M 2))), (a 4, .inl (cI, 48, .inl (M 3))), (a 5, .inl (cI, 4, .inl (M 4))), (a 6, .inl (cI, 4, .inl (M 5))), (a 7, .inl (cI, 12, .inl (M 6))), (a 8, .inl (cI, 4, .inl (M 7))), (a 9, .inl (cI, 102, .inl (M 8)))]) (w1 := cFd (fun j => a (10 + j)) cI (f_X0_end M)) hP hD [10, 11] [0, 1, 2, 3, 4, 5, 6, 7, 8, 9] rfl rfl (by decide) (by decide) hk1 hFc hP1 hD1
    have hP : va_P (dC, dI) vwCl (cSt a cI (mFd M (f_X0_end M))) H3 := hP.sub [0, 1, 2, 3, 4, 5, 6, 7, 8, 9, 10, 11] rfl
    have hD : va_D (va_A (cSt a cI M) s.heap.size) (cSt a cI (mFd M (f_X0_end M))) := hD.sub [0, 1, 2, 3, 4, 5, 6, 7, 8, 9, 10, 11] (by decide) rfl
    obtain ⟨Mn5, eMn5⟩ : ∃ z : SR, z = mFd M (f_X0_end M) := ⟨_, rfl⟩
    rw [sLet_eq, ← eMn5] at hR
    rw [← eMn5] at hP hD
    have hW6 : WF Mn5 := (by rw [eMn5]; exact wf_fd hW hens4)
    refine lv_aload_n hx hb dX4_beginFade_25 rfl (lv_at hl 0 rfl) ?_
    refine va_get (D := (dC, dI)) (ci := 4) (v := .ref (a 9)) (C := RX4) (T := TX4) (N := 18) hx hb hts hin4 hown hK hP 0 rfl rfl 15 (by decide) (hts (.fieldLink RX4 36 "FeedDesk$State" "scenes" "[I") (List.mem_of_getElem? (i := 3) rfl)) (fun _ h9 => h9) rfl dX4_beginFade_26 ?_
    refine lv_iload_n hx hb dX4_beginFade_29 rfl (lv_at hl 1 rfl) ?_
    refine lv_bipush (v := 17) hx hb dX4_beginFade_30 (by decide) ?_
    refine lv_imul hx hb dX4_beginFade_32 ?_
    refine lv_aload_n hx hb dX4_beginFade_33 rfl (lv_at hl 0 rfl) ?_
    refine va_get (D := (dC, dI)) (ci := 4) (v := .ref (a 2)) (C := RX4) (T := TX4) (N := 18) hx hb hts hin4 hown hK hP 0 rfl rfl 1 (by decide) (hts (.fieldLink RX4 15 "FeedDesk$State" "sliders" "[I") (List.mem_of_getElem? (i := 2) rfl)) (fun _ h9 => h9) rfl dX4_beginFade_34 ?_
    refine lv_iconst (v := 0) hx hb dX4_beginFade_37 (by decide) ?_
    refine lv_bipush (v := 16) hx hb dX4_beginFade_38 (by decide) ?_
    refine va_copyT (h := (fun q => Mn5 8 ((p1 * 17).toNatClampNeg + q))) (f := Mn5 8) (g := Mn5 1) hx hb (hml.trans hl.1.symm) hown (hts (.methodLink RX4 46 arraycopyName) (List.mem_of_getElem? (i := 4) rfl)) (hts (.native arraycopyName) (List.mem_of_getElem? (i := 5) rfl)) (hts (.static arraycopyName) (List.mem_of_getElem? (i := 6) rfl)) (hts (.initialized "java/lang/System") (List.mem_of_getElem? (i := 7) rfl)) hK hP hD hS 9 2 0 0 rfl rfl rfl rfl rfl (by rw [ep1]; exact (by decide +kernel : ∀ q : Nat, q < 6 → ¬ nI q * 17 < 0) ip1 hip1) (by decide) (by decide) (by rw [ep1]; exact (by decide +kernel : ∀ q : Nat, q < 6 → (nI q * 17 : Int32).toNatClampNeg + (16 : Int32).toNatClampNeg ≤ 102) ip1 hip1) (by decide +kernel) (fun _ _ => rfl) (fun q hq => cp_from hq) (Nat.le_of_ble_eq_true rfl) (Nat.le_of_ble_eq_true rfl) dX4_beginFade_40 (fun H7 locs hP hD hS => ?_)
    have hP : va_P (dC, dI) vwCl (cSt a cI (sR Mn5 1 (fun q => Mn5 8 ((p1 * 17).toNatClampNeg + q)))) H7 := hP
    have hD : va_D (va_A (cSt a cI M) s.heap.size) (cSt a cI (sR Mn5 1 (fun q => Mn5 8 ((p1 * 17).toNatClampNeg + q)))) := hD
    obtain ⟨Mn8, eMn8⟩ : ∃ z : SR, z = sR Mn5 1 (fun q => Mn5 8 ((p1 * 17).toNatClampNeg + q)) := ⟨_, rfl⟩
    rw [sLet_eq, ← eMn8] at hR
    rw [← eMn8] at hP hD
    have hW9 : WF Mn8 := (by rw [eMn8]; exact hW6)
    refine lv_aload_n hx hb dX4_beginFade_43 rfl (lv_at hl 0 rfl) ?_
    refine lv_aload_n hx hb dX4_beginFade_44 rfl (lv_at hl 0 rfl) ?_
    refine va_get (D := (dC, dI)) (ci := 4) (v := .ref (a 9)) (C := RX4) (T := TX4) (N := 18) hx hb hts hin4 hown hK hP 0 rfl rfl 15 (by decide) (hts (.fieldLink RX4 36 "FeedDesk$State" "scenes" "[I") (List.mem_of_getElem? (i := 3) rfl)) (fun _ h9 => h9) rfl dX4_beginFade_45 ?_
    refine lv_iload_n hx hb dX4_beginFade_48 rfl (lv_at hl 1 rfl) ?_
    refine lv_bipush (v := 17) hx hb dX4_beginFade_49 (by decide) ?_
    refine lv_imul hx hb dX4_beginFade_51 ?_
    refine lv_bipush (v := 16) hx hb dX4_beginFade_52 (by decide) ?_
    refine lv_iadd hx hb dX4_beginFade_54 ?_
    refine va_iald (f := Mn8 8) hx hb hK hP 9 0 rfl rfl (by rw [ep1]; exact vp_of_B (ix_6 ip1 hip1)) dX4_beginFade_55 ?_
    refine va_put (D := (dC, dI)) (ci := 4) (v := .int (Mn8 8 ((p1 * 17) + 16).toNatClampNeg)) (ty := .int) (C := RX4) (T := TX4) (N := 18) hx hb hts hin4 tyX4 tyX4_ok nmX4 hown hK hP hD hS 0 rfl rfl 3 (by decide) (hts (.fieldLink RX4 52 "FeedDesk$State" "muted" "I") (List.mem_of_getElem? (i := 8) rfl)) (fun _ h9 => h9) rfl (by decide +kernel) rfl rfl (Nat.le_of_ble_eq_true rfl) dX4_beginFade_56 (fun H10 locs hP hD hS => ?_)
    have hP : va_P (dC, dI) vwCl (cSt a cI (sU Mn8 10 0 (Mn8 8 ((p1 * 17) + 16).toNatClampNeg))) H10 := hP
    have hD : va_D (va_A (cSt a cI M) s.heap.size) (cSt a cI (sU Mn8 10 0 (Mn8 8 ((p1 * 17) + 16).toNatClampNeg))) := hD
    obtain ⟨Mn11, eMn11⟩ : ∃ z : SR, z = sU Mn8 10 0 (Mn8 8 ((p1 * 17) + 16).toNatClampNeg) := ⟨_, rfl⟩
    rw [sLet_eq, ← eMn11] at hR
    rw [← eMn11] at hP hD
    have hW12 : WF Mn11 := (by rw [eMn11]; exact hW9)
    exact W.vret hx hb hr (fun t ht hWw => ⟨⟨Mn11, rfl, ⟨hR.symm.trans eR, hW12⟩, by rw [ht]; exact hP, hD⟩, hS.F ht⟩) hS.2.2 dX4_beginFade_59
  · rw [if_neg c1] at hR
    refine lv_aload_n hx hb dX4_beginFade_4 rfl (lv_at hl 0 rfl) ?_
    refine va_get (D := (dC, dI)) (ci := 4) (v := .ref (a 10)) (C := RX4) (T := TX4) (N := 18) hx hb hts hin4 hown hK hP 0 rfl rfl 17 (by decide) (hts (.fieldLink RX4 42 "FeedDesk$State" "fade" "LFeedDesk$Fade;") (List.mem_of_getElem? (i := 1) rfl)) (fun _ h9 => h9) rfl dX4_beginFade_5 ?_
    refine lv_iload_n hx hb dX4_beginFade_8 rfl (lv_at hl 1 rfl) ?_
    refine lv_iload_n hx hb dX4_beginFade_9 rfl (lv_at hl 2 rfl) ?_
    refine lv_aload_n hx hb dX4_beginFade_10 rfl (lv_at hl 0 rfl) ?_
    refine va_get (D := (dC, dI)) (ci := 4) (v := .ref (a 2)) (C := RX4) (T := TX4) (N := 18) hx hb hts hin4 hown hK hP 0 rfl rfl 1 (by decide) (hts (.fieldLink RX4 15 "FeedDesk$State" "sliders" "[I") (List.mem_of_getElem? (i := 2) rfl)) (fun _ h9 => h9) rfl dX4_beginFade_11 ?_
    have hPc : va_P (dC, dI) vwCl (cFd (fun j => a (10 + j)) cI M ++ cA16 (fun j => a (2 + j)) cI (M 1)) s.heap := hP.sub [10, 11, 2] rfl
    have hDc : va_D (va_A (cSt a cI M) s.heap.size) (cFd (fun j => a (10 + j)) cI M ++ cA16 (fun j => a (2 + j)) cI (M 1)) := hD.sub [10, 11, 2] (by decide) rfl
    have hFc : ∀ q : Nat, va_A (cFd (fun j => a (10 + j)) cI M ++ cA16 (fun j => a (2 + j)) cI (M 1)) s.heap.size q → (va_A (cSt a cI M) s.heap.size) q := va_free hD hS hA [10, 11, 2] rfl
    refine va_callv (va_runV (As := [.int p1, .int p2, .ref (a 2)]) (rest := []) ⟨hx, hb, hml, hown, hts⟩ (c_X0_begin l dC dI cI cC cS (fun j => a (10 + j)) (fun j => a (2 + j)) M (M 1) s.heap.size p1 p2) (cwV 3 hts gX4_beginFade_X0_begin rfl rfl rfl (by decide +kernel) ⟨Nat.le_of_ble_eq_true rfl, Nat.le_of_ble_eq_true rfl⟩) (pV (q0 := 0) hK hPc hDc hN rfl rfl) rfl rfl hl.1 rfl (lv_room (Nat.le_of_ble_eq_true rfl)) dX4_beginFade_14 ⟨Nat.le_of_ble_eq_true rfl, Nat.le_of_ble_eq_true rfl⟩) hS (fun q _ h => hFc q h) hFc (fun u_13 t_13 H14 locs ht hvm hw hB hz1 hk1 hS => ?_)
    obtain ⟨hw, hens15⟩ := hw
    obtain ⟨hP1, hD1⟩ := hB
    rw [ht] at hP1
    subst hw
    obtain ⟨hP, hD⟩ := va_join (wc := cFd (fun j => a (10 + j)) cI M ++ cA16 (fun j => a (2 + j)) cI (M 1)) (wr := [(a 0, .inr (4, [.ref (a 1), .ref (a 2), .ref (a 3), .int (M 10 0), .int (M 10 1), .int (M 10 2), .ref (a 4), .ref (a 5), .ref (a 6), .ref (a 7), .ref (a 8), .int (M 10 3), .int (M 10 4), .int (M 10 5), .int (M 10 6), .ref (a 9), .int (M 10 7), .ref (a 10)])), (a 1, .inl (cI, 12, .inl (M 0))), (a 3, .inl (cI, 12, .inl (M 2))), (a 4, .inl (cI, 48, .inl (M 3))), (a 5, .inl (cI, 4, .inl (M 4))), (a 6, .inl (cI, 4, .inl (M 5))), (a 7, .inl (cI, 12, .inl (M 6))), (a 8, .inl (cI, 4, .inl (M 7))), (a 9, .inl (cI, 102, .inl (M 8)))]) (w1 := cFd (fun j => a (10 + j)) cI (f_X0_begin M (M 1) p1 p2) ++ cA16 (fun j => a (2 + j)) cI (M 1)) hP hD [10, 11, 2] [0, 1, 3, 4, 5, 6, 7, 8, 9] rfl rfl (by decide) (by decide) hk1 hFc hP1 hD1
    have hP : va_P (dC, dI) vwCl (cSt a cI (mFd M (f_X0_begin M (M 1) p1 p2))) H14 := hP.sub [0, 1, 11, 2, 3, 4, 5, 6, 7, 8, 9, 10] rfl
    have hD : va_D (va_A (cSt a cI M) s.heap.size) (cSt a cI (mFd M (f_X0_begin M (M 1) p1 p2))) := hD.sub [0, 1, 11, 2, 3, 4, 5, 6, 7, 8, 9, 10] (by decide) rfl
    obtain ⟨Mn16, eMn16⟩ : ∃ z : SR, z = mFd M (f_X0_begin M (M 1) p1 p2) := ⟨_, rfl⟩
    rw [sLet_eq, ← eMn16] at hR
    rw [← eMn16] at hP hD
    have hW17 : WF Mn16 := (by rw [eMn16]; exact wf_fd2 hW hens15 h1)
    exact W.vret hx hb hr (fun t ht hWw => ⟨⟨Mn16, rfl, ⟨hR.symm.trans eR, hW17⟩, by rw [ht]; exact hP, hD⟩, hS.F ht⟩) hS.2.2 dX4_beginFade_17
abbrev rm_X4_takeSignals : Room := { frames := 1, cells := 0, slots := 0, locals := 21 }
def f_X4_takeSignals_p17   : Nat → Int32 → SR → SR
  | 0, _, M_17 => M_17
  | n_17 + 1, x1_17, M_17 => (if 4 ≤ x1_17 then M_17 else (if (M_17 5 x1_17.toNatClampNeg) < 0 then (f_X4_takeSignals_p17 n_17) (x1_17 + 1) M_17 else sLet (sU M_17 6 (M_17 5 x1_17.toNatClampNeg).toNatClampNeg (if 9999 < ((M_17 6 (M_17 5 x1_17.toNatClampNeg).toNatClampNeg) + (M_17 7 x1_17.toNatClampNeg)) then 9999 else ((M_17 6 (M_17 5 x1_17.toNatClampNeg).toNatClampNeg) + (M_17 7 x1_17.toNatClampNeg)))) (fun Mn7 : SR => (f_X4_takeSignals_p17 n_17) (x1_17 + 1) Mn7)))
def f_X4_takeSignals (M : SR)  : SR := sLet (sR M 6 (M 0)) (fun Mn2 : SR => f_X4_takeSignals_p17 5 0 Mn2)
set_option maxHeartbeats 4000000 in
set_option maxRecDepth 100000 in
theorem c_X4_takeSignals (l : Launch) (dC : Nat → ClassId) (dI : Nat → Nat → Nat) (cI cC cS : ClassId) (a : Nat → Nat) (M : SR) (sz : Nat)  (hW : WF M) : Met l yX4_takeSignals wsX4_takeSignals rm_X4_takeSignals (PcG (dC, dI) (tyL cI cC cS) (cSt a cI M) sz [.ref (a 0)]) (va_Qv (fun (u : SR) => u = f_X4_takeSignals M ∧ (WF u)) (fun u U => va_P (dC, dI) vwCl (cSt a cI u) U.heap ∧ va_D (va_A (cSt a cI M) sz) (cSt a cI u)) (va_A (cSt a cI M) sz)) 0 0 (va_A (cSt a cI M) sz) := by
  refine Met.ofW (cc := cX4_takeSignals) (maxL := 3) (ret := none) (by decide) rfl ?_
  intro p e s m args below meth c s₁ B hml hv
  obtain ⟨rfl, hsz, hP, hK, hD0, hN⟩ := hv
  have hx := B.exec
  have hb := B.bytes
  have hr := B.returns
  have hts := atoms_spec (ws := wsX4_takeSignals) B.pre
  have hown : s.vm.findClass RX4 = some m.cls := findClass_of_methodNamed B.named
  have hlocks := B.notSynchronized
  subst hsz
  have hD := hD0.self (sz := s.heap.size)
  have hA : ∀ q : Nat, s.heap.size ≤ q → (va_A (cSt a cI M) s.heap.size) q := fun q h => Or.inr h
  have hS : va_S (va_A (cSt a cI M) s.heap.size) s.heap s.heap [] := va_S.rf
  have hin4 : ∀ w ∈ wsX40, w ∈ wsX4_takeSignals := fun _ h => List.mem_cons_of_mem _ (List.mem_append_right _ h)
  have hl := lv_entry [.ref (a 0)] (n := 3) (Nat.le_of_ble_eq_true rfl)
  rw [lg_entry_eq]
  generalize (lg_sl [.ref (a 0)] ++ List.replicate (3 - (lg_sl [.ref (a 0)]).length) Slot.unset).toArray = ls at hl ⊢
  have hl : lv_has ls 3 [(0, .ref (a 0))] := hl
  obtain ⟨R0, eR⟩ : ∃ z, z = f_X4_takeSignals M := ⟨_, rfl⟩
  have hR := eR
  rw [f_X4_takeSignals] at hR
  refine lv_aload_n hx hb dX4_takeSignals_0 rfl (lv_at hl 0 rfl) ?_
  refine va_get (D := (dC, dI)) (ci := 4) (v := .ref (a 1)) (C := RX4) (T := TX4) (N := 18) hx hb hts hin4 hown hK hP 0 rfl rfl 0 (by decide) (hts (.fieldLink RX4 9 "FeedDesk$State" "input" "[I") (List.mem_of_getElem? (i := 1) rfl)) (fun _ h9 => h9) rfl dX4_takeSignals_1 ?_
  refine lv_iconst (v := 0) hx hb dX4_takeSignals_4 (by decide) ?_
  refine lv_aload_n hx hb dX4_takeSignals_5 rfl (lv_at hl 0 rfl) ?_
  refine va_get (D := (dC, dI)) (ci := 4) (v := .ref (a 7)) (C := RX4) (T := TX4) (N := 18) hx hb hts hin4 hown hK hP 0 rfl rfl 9 (by decide) (hts (.fieldLink RX4 30 "FeedDesk$State" "signal" "[I") (List.mem_of_getElem? (i := 2) rfl)) (fun _ h9 => h9) rfl dX4_takeSignals_6 ?_
  refine lv_iconst (v := 0) hx hb dX4_takeSignals_9 (by decide) ?_
  refine lv_bipush (v := 12) hx hb dX4_takeSignals_10 (by decide) ?_
  refine va_copyT (h := M 0) (f := M 0) (g := M 6) hx hb (hml.trans hl.1.symm) hown (hts (.methodLink RX4 46 arraycopyName) (List.mem_of_getElem? (i := 3) rfl)) (hts (.native arraycopyName) (List.mem_of_getElem? (i := 4) rfl)) (hts (.static arraycopyName) (List.mem_of_getElem? (i := 5) rfl)) (hts (.initialized "java/lang/System") (List.mem_of_getElem? (i := 6) rfl)) hK hP hD hS 1 7 0 0 rfl rfl rfl rfl rfl (by decide) (by decide) (by decide) (by decide +kernel) (by decide +kernel) (fun _ _ => rfl) (fun q hq => cp_full hq) (Nat.le_of_ble_eq_true rfl) (Nat.le_of_ble_eq_true rfl) dX4_takeSignals_12 (fun H1 locs hP hD hS => ?_)
  have hP : va_P (dC, dI) vwCl (cSt a cI (sR M 6 (M 0))) H1 := hP
  have hD : va_D (va_A (cSt a cI M) s.heap.size) (cSt a cI (sR M 6 (M 0))) := hD
  obtain ⟨Mn2, eMn2⟩ : ∃ z : SR, z = sR M 6 (M 0) := ⟨_, rfl⟩
  rw [sLet_eq, ← eMn2] at hR
  rw [← eMn2] at hP hD
  have hW3 : WF Mn2 := (by rw [eMn2]; exact hW)
  refine lv_iconst (v := 0) hx hb dX4_takeSignals_15 (by decide) ?_
  refine lv_istore_n (lv' := [(1, .int 0), (0, .ref (a 0))]) hx hb dX4_takeSignals_16 rfl hl (by decide) rfl (fun ls hl => ?_)
  have hL_17 : ∀ n_17 : Nat, ∀ (j_17 : Nat), ∀ (x1_17 : Int32) (M_17 : SR), x1_17 = nI j_17 → j_17 ≤ 4 → 4 < j_17 + n_17 → WF M_17 → R0 = f_X4_takeSignals_p17 n_17 x1_17 M_17 → ∀ (H : Heap) (locs : List Loc) (ls : Array Slot), va_P (dC, dI) vwCl (cSt a cI M_17) H → va_D (va_A (cSt a cI M) s.heap.size) (cSt a cI M_17) → va_S (va_A (cSt a cI M) s.heap.size) s.heap H locs → lv_has ls 3 [(0, .ref (a 0)), (1, .int x1_17)] → W p l e (headSpec wsX4_takeSignals rm_X4_takeSignals).room s m ([.ref (a 0)] : List Value).toArray below meth c H locs 0 0 (MQ below (va_Qv (fun (u : SR) => u = f_X4_takeSignals M ∧ (WF u)) (fun u U => va_P (dC, dI) vwCl (cSt a cI u) U.heap ∧ va_D (va_A (cSt a cI M) s.heap.size) (cSt a cI u)) (va_A (cSt a cI M) s.heap.size)) ([.ref (a 0)] : List Value).toArray s 0 0 (va_A (cSt a cI M) s.heap.size)) (F0 m 17 ls []) := by
    intro n_17
    induction n_17 with
    | zero =>
      intro j_17 x1_17 M_17 ex1_17 hj0_17 hn_17 hW_17
      exact absurd hn_17 (by omega)
    | succ n_17 ih_17 =>
      intro j_17 x1_17 M_17 ex1_17 hj0_17 hn_17 hW_17 hR H locs ls hP hD hS hl
      rw [f_X4_takeSignals_p17] at hR
      refine lv_iload_n hx hb dX4_takeSignals_17 rfl (lv_at hl 1 rfl) ?_
      refine lv_iconst (v := 4) hx hb dX4_takeSignals_18 (by decide) ?_
      refine lv_icmp_ge (tgt := 64) hx hb dX4_takeSignals_19 (by decide) (fun c4 => ?_) (fun c4 => ?_)
      · rw [if_pos c4] at hR
        exact W.vret hx hb hr (fun t ht hWw => ⟨⟨M_17, rfl, ⟨hR.symm.trans eR, hW_17⟩, by rw [ht]; exact hP, hD⟩, hS.F ht⟩) hS.2.2 dX4_takeSignals_64
      · rw [if_neg c4] at hR
        have hj_17 : j_17 < 4 := lp_ge ex1_17 (by decide +kernel) (by omega) (by omega) c4
        refine lv_aload_n hx hb dX4_takeSignals_22 rfl (lv_at hl 0 rfl) ?_
        refine va_get (D := (dC, dI)) (ci := 4) (v := .ref (a 6)) (C := RX4) (T := TX4) (N := 18) hx hb hts hin4 hown hK hP 0 rfl rfl 8 (by decide) (hts (.fieldLink RX4 27 "FeedDesk$State" "returns" "[I") (List.mem_of_getElem? (i := 7) rfl)) (fun _ h9 => h9) rfl dX4_takeSignals_23 ?_
        refine lv_iload_n hx hb dX4_takeSignals_26 rfl (lv_at hl 1 rfl) ?_
        refine va_iald (f := M_17 5) hx hb hK hP 6 0 rfl rfl (by rw [ex1_17]; exact vp_of_B (ix_2 j_17 hj_17)) dX4_takeSignals_27 ?_
        refine lv_istore_n (lv' := [(2, .int (M_17 5 x1_17.toNatClampNeg)), (0, .ref (a 0)), (1, .int x1_17)]) hx hb dX4_takeSignals_28 rfl hl (by decide) rfl (fun ls hl => ?_)
        refine lv_iload_n hx hb dX4_takeSignals_29 rfl (lv_at hl 0 rfl) ?_
        refine lv_if_lt (tgt := 58) hx hb dX4_takeSignals_30 (by decide) (fun c5 => ?_) (fun c5 => ?_)
        · rw [if_pos c5] at hR
          refine lv_iinc (v := x1_17 + 1) (lv' := [(1, .int (x1_17 + 1)), (2, .int (M_17 5 x1_17.toNatClampNeg)), (0, .ref (a 0))]) hx hb dX4_takeSignals_58 hl (k := 2) rfl rfl (by decide) rfl (fun ls hl => ?_)
          refine lv_goto (tgt := 17) hx hb dX4_takeSignals_61 (by decide) ?_
          exact ih_17 (j_17 + 1) (x1_17 + 1) M_17 (by rw [ex1_17, nI_1]) (by omega) (by omega) hW_17 hR _ _ _ hP hD hS (lv_sub hl [2, 0] rfl)
        · rw [if_neg c5] at hR
          refine lv_aload_n hx hb dX4_takeSignals_33 rfl (lv_at hl 1 rfl) ?_
          refine va_get (D := (dC, dI)) (ci := 4) (v := .ref (a 7)) (C := RX4) (T := TX4) (N := 18) hx hb hts hin4 hown hK hP 0 rfl rfl 9 (by decide) (hts (.fieldLink RX4 30 "FeedDesk$State" "signal" "[I") (List.mem_of_getElem? (i := 2) rfl)) (fun _ h9 => h9) rfl dX4_takeSignals_34 ?_
          refine lv_iload_n hx hb dX4_takeSignals_37 rfl (lv_at hl 0 rfl) ?_
          refine lv_aload_n hx hb dX4_takeSignals_38 rfl (lv_at hl 1 rfl) ?_
          refine va_get (D := (dC, dI)) (ci := 4) (v := .ref (a 7)) (C := RX4) (T := TX4) (N := 18) hx hb hts hin4 hown hK hP 0 rfl rfl 9 (by decide) (hts (.fieldLink RX4 30 "FeedDesk$State" "signal" "[I") (List.mem_of_getElem? (i := 2) rfl)) (fun _ h9 => h9) rfl dX4_takeSignals_39 ?_
          refine lv_iload_n hx hb dX4_takeSignals_42 rfl (lv_at hl 0 rfl) ?_
          refine va_iald (f := M_17 6) hx hb hK hP 7 0 rfl rfl (wf_ret hW_17 ex1_17 hj_17 c5) dX4_takeSignals_43 ?_
          refine lv_aload_n hx hb dX4_takeSignals_44 rfl (lv_at hl 1 rfl) ?_
          refine va_get (D := (dC, dI)) (ci := 4) (v := .ref (a 8)) (C := RX4) (T := TX4) (N := 18) hx hb hts hin4 hown hK hP 0 rfl rfl 10 (by decide) (hts (.fieldLink RX4 33 "FeedDesk$State" "output" "[I") (List.mem_of_getElem? (i := 8) rfl)) (fun _ h9 => h9) rfl dX4_takeSignals_45 ?_
          refine lv_iload_n hx hb dX4_takeSignals_48 rfl (lv_at hl 2 rfl) ?_
          refine va_iald (f := M_17 7) hx hb hK hP 8 0 rfl rfl (by rw [ex1_17]; exact vp_of_B (ix_2 j_17 hj_17)) dX4_takeSignals_49 ?_
          refine lv_iadd hx hb dX4_takeSignals_50 ?_
          refine lv_sipush (v := 9999) hx hb dX4_takeSignals_51 (by decide) ?_
          refine va_mmin hx hb (hml.trans hl.1.symm) hown (hts (.methodLink RX4 150 Lib.Math.min.name) (List.mem_of_getElem? (i := 9) rfl)) (hts (.static Lib.Math.min.name) (List.mem_of_getElem? (i := 10) rfl)) (hts (.initialized "java/lang/Math") (List.mem_of_getElem? (i := 11) rfl)) (hts (.code Lib.Math.min.name Lib.Math.min.code 2 (some .int)) (List.mem_of_getElem? (i := 12) rfl)) (Nat.le_of_ble_eq_true rfl) (Nat.le_of_ble_eq_true rfl) (Nat.le_of_ble_eq_true rfl) (Nat.le_of_ble_eq_true rfl) dX4_takeSignals_54 ?_
          refine va_iast (f := M_17 6) hx hb hK hP hD hS 7 0 rfl rfl (wf_ret hW_17 ex1_17 hj_17 c5) dX4_takeSignals_57 (fun H6 locs hP hD hS => ?_)
          have hP : va_P (dC, dI) vwCl (cSt a cI (sU M_17 6 (M_17 5 x1_17.toNatClampNeg).toNatClampNeg (if 9999 < ((M_17 6 (M_17 5 x1_17.toNatClampNeg).toNatClampNeg) + (M_17 7 x1_17.toNatClampNeg)) then 9999 else ((M_17 6 (M_17 5 x1_17.toNatClampNeg).toNatClampNeg) + (M_17 7 x1_17.toNatClampNeg))))) H6 := hP
          have hD : va_D (va_A (cSt a cI M) s.heap.size) (cSt a cI (sU M_17 6 (M_17 5 x1_17.toNatClampNeg).toNatClampNeg (if 9999 < ((M_17 6 (M_17 5 x1_17.toNatClampNeg).toNatClampNeg) + (M_17 7 x1_17.toNatClampNeg)) then 9999 else ((M_17 6 (M_17 5 x1_17.toNatClampNeg).toNatClampNeg) + (M_17 7 x1_17.toNatClampNeg))))) := hD
          obtain ⟨Mn7, eMn7⟩ : ∃ z : SR, z = sU M_17 6 (M_17 5 x1_17.toNatClampNeg).toNatClampNeg (if 9999 < ((M_17 6 (M_17 5 x1_17.toNatClampNeg).toNatClampNeg) + (M_17 7 x1_17.toNatClampNeg)) then 9999 else ((M_17 6 (M_17 5 x1_17.toNatClampNeg).toNatClampNeg) + (M_17 7 x1_17.toNatClampNeg))) := ⟨_, rfl⟩
          rw [sLet_eq, ← eMn7] at hR
          rw [← eMn7] at hP hD
          have hW8 : WF Mn7 := (by rw [eMn7]; exact hW_17)
          refine lv_iinc (v := x1_17 + 1) (lv' := [(1, .int (x1_17 + 1)), (2, .int (M_17 5 x1_17.toNatClampNeg)), (0, .ref (a 0))]) hx hb dX4_takeSignals_58 hl (k := 2) rfl rfl (by decide) rfl (fun ls hl => ?_)
          refine lv_goto (tgt := 17) hx hb dX4_takeSignals_61 (by decide) ?_
          exact ih_17 (j_17 + 1) (x1_17 + 1) Mn7 (by rw [ex1_17, nI_1]) (by omega) (by omega) hW8 hR _ _ _ hP hD hS (lv_sub hl [2, 0] rfl)
  exact hL_17 5 0 0 Mn2 (by decide +kernel) (by decide) (by decide) hW3 hR _ _ _ hP hD hS (lv_sub hl [1, 0] rfl)
abbrev rm_X4_clip : Room := { frames := 0, cells := 0, slots := 0, locals := 0 }
def f_X4_clip_p2   : Nat → Int32 → SR → SR
  | 0, _, M_2 => M_2
  | n_2 + 1, x1_2, M_2 => (if 4 ≤ x1_2 then M_2 else (if (M_2 7 x1_2.toNatClampNeg) ≤ 9999 then (f_X4_clip_p2 n_2) (x1_2 + 1) M_2 else sLet (sU M_2 7 x1_2.toNatClampNeg 9999) (fun Mn4 : SR => sLet (sU Mn4 10 6 ((Mn4 10 6) + 1)) (fun Mn7 : SR => (f_X4_clip_p2 n_2) (x1_2 + 1) Mn7))))
def f_X4_clip (M : SR)  : SR := f_X4_clip_p2 5 0 M
set_option maxHeartbeats 4000000 in
set_option maxRecDepth 100000 in
theorem c_X4_clip (l : Launch) (dC : Nat → ClassId) (dI : Nat → Nat → Nat) (cI cC cS : ClassId) (a : Nat → Nat) (M : SR) (sz : Nat)  (hW : WF M) : Met l yX4_clip wsX4_clip rm_X4_clip (PcG (dC, dI) (tyL cI cC cS) (cSt a cI M) sz [.ref (a 0)]) (va_Qv (fun (u : SR) => u = f_X4_clip M ∧ (WF u)) (fun u U => va_P (dC, dI) vwCl (cSt a cI u) U.heap ∧ va_D (va_A (cSt a cI M) sz) (cSt a cI u)) (va_A (cSt a cI M) sz)) 0 0 (va_A (cSt a cI M) sz) := by
  refine Met.ofW (cc := cX4_clip) (maxL := 2) (ret := none) (by decide) rfl ?_
  intro p e s m args below meth c s₁ B hml hv
  obtain ⟨rfl, hsz, hP, hK, hD0, hN⟩ := hv
  have hx := B.exec
  have hb := B.bytes
  have hr := B.returns
  have hts := atoms_spec (ws := wsX4_clip) B.pre
  have hown : s.vm.findClass RX4 = some m.cls := findClass_of_methodNamed B.named
  have hlocks := B.notSynchronized
  subst hsz
  have hD := hD0.self (sz := s.heap.size)
  have hA : ∀ q : Nat, s.heap.size ≤ q → (va_A (cSt a cI M) s.heap.size) q := fun q h => Or.inr h
  have hS : va_S (va_A (cSt a cI M) s.heap.size) s.heap s.heap [] := va_S.rf
  have hin4 : ∀ w ∈ wsX40, w ∈ wsX4_clip := fun _ h => List.mem_cons_of_mem _ (List.mem_append_right _ h)
  have hl := lv_entry [.ref (a 0)] (n := 2) (Nat.le_of_ble_eq_true rfl)
  rw [lg_entry_eq]
  generalize (lg_sl [.ref (a 0)] ++ List.replicate (2 - (lg_sl [.ref (a 0)]).length) Slot.unset).toArray = ls at hl ⊢
  have hl : lv_has ls 2 [(0, .ref (a 0))] := hl
  obtain ⟨R0, eR⟩ : ∃ z, z = f_X4_clip M := ⟨_, rfl⟩
  have hR := eR
  rw [f_X4_clip] at hR
  refine lv_iconst (v := 0) hx hb dX4_clip_0 (by decide) ?_
  refine lv_istore_n (lv' := [(1, .int 0), (0, .ref (a 0))]) hx hb dX4_clip_1 rfl hl (by decide) rfl (fun ls hl => ?_)
  have hL_2 : ∀ n_2 : Nat, ∀ (j_2 : Nat), ∀ (x1_2 : Int32) (M_2 : SR), x1_2 = nI j_2 → j_2 ≤ 4 → 4 < j_2 + n_2 → WF M_2 → R0 = f_X4_clip_p2 n_2 x1_2 M_2 → ∀ (H : Heap) (locs : List Loc) (ls : Array Slot), va_P (dC, dI) vwCl (cSt a cI M_2) H → va_D (va_A (cSt a cI M) s.heap.size) (cSt a cI M_2) → va_S (va_A (cSt a cI M) s.heap.size) s.heap H locs → lv_has ls 2 [(0, .ref (a 0)), (1, .int x1_2)] → W p l e (headSpec wsX4_clip rm_X4_clip).room s m ([.ref (a 0)] : List Value).toArray below meth c H locs 0 0 (MQ below (va_Qv (fun (u : SR) => u = f_X4_clip M ∧ (WF u)) (fun u U => va_P (dC, dI) vwCl (cSt a cI u) U.heap ∧ va_D (va_A (cSt a cI M) s.heap.size) (cSt a cI u)) (va_A (cSt a cI M) s.heap.size)) ([.ref (a 0)] : List Value).toArray s 0 0 (va_A (cSt a cI M) s.heap.size)) (F0 m 2 ls []) := by
    intro n_2
    induction n_2 with
    | zero =>
      intro j_2 x1_2 M_2 ex1_2 hj0_2 hn_2 hW_2
      exact absurd hn_2 (by omega)
    | succ n_2 ih_2 =>
      intro j_2 x1_2 M_2 ex1_2 hj0_2 hn_2 hW_2 hR H locs ls hP hD hS hl
      rw [f_X4_clip_p2] at hR
      refine lv_iload_n hx hb dX4_clip_2 rfl (lv_at hl 1 rfl) ?_
      refine lv_iconst (v := 4) hx hb dX4_clip_3 (by decide) ?_
      refine lv_icmp_ge (tgt := 44) hx hb dX4_clip_4 (by decide) (fun c1 => ?_) (fun c1 => ?_)
      · rw [if_pos c1] at hR
        exact W.vret hx hb hr (fun t ht hWw => ⟨⟨M_2, rfl, ⟨hR.symm.trans eR, hW_2⟩, by rw [ht]; exact hP, hD⟩, hS.F ht⟩) hS.2.2 dX4_clip_44
      · rw [if_neg c1] at hR
        have hj_2 : j_2 < 4 := lp_ge ex1_2 (by decide +kernel) (by omega) (by omega) c1
        refine lv_aload_n hx hb dX4_clip_7 rfl (lv_at hl 0 rfl) ?_
        refine va_get (D := (dC, dI)) (ci := 4) (v := .ref (a 8)) (C := RX4) (T := TX4) (N := 18) hx hb hts hin4 hown hK hP 0 rfl rfl 10 (by decide) (hts (.fieldLink RX4 33 "FeedDesk$State" "output" "[I") (List.mem_of_getElem? (i := 1) rfl)) (fun _ h9 => h9) rfl dX4_clip_8 ?_
        refine lv_iload_n hx hb dX4_clip_11 rfl (lv_at hl 1 rfl) ?_
        refine va_iald (f := M_2 7) hx hb hK hP 8 0 rfl rfl (by rw [ex1_2]; exact vp_of_B (ix_2 j_2 hj_2)) dX4_clip_12 ?_
        refine lv_sipush (v := 9999) hx hb dX4_clip_13 (by decide) ?_
        refine lv_icmp_le (tgt := 38) hx hb dX4_clip_16 (by decide) (fun c2 => ?_) (fun c2 => ?_)
        · rw [if_pos c2] at hR
          refine lv_iinc (v := x1_2 + 1) (lv' := [(1, .int (x1_2 + 1)), (0, .ref (a 0))]) hx hb dX4_clip_38 hl (k := 1) rfl rfl (by decide) rfl (fun ls hl => ?_)
          refine lv_goto (tgt := 2) hx hb dX4_clip_41 (by decide) ?_
          exact ih_2 (j_2 + 1) (x1_2 + 1) M_2 (by rw [ex1_2, nI_1]) (by omega) (by omega) hW_2 hR _ _ _ hP hD hS (lv_sub hl [1, 0] rfl)
        · rw [if_neg c2] at hR
          refine lv_aload_n hx hb dX4_clip_19 rfl (lv_at hl 0 rfl) ?_
          refine va_get (D := (dC, dI)) (ci := 4) (v := .ref (a 8)) (C := RX4) (T := TX4) (N := 18) hx hb hts hin4 hown hK hP 0 rfl rfl 10 (by decide) (hts (.fieldLink RX4 33 "FeedDesk$State" "output" "[I") (List.mem_of_getElem? (i := 1) rfl)) (fun _ h9 => h9) rfl dX4_clip_20 ?_
          refine lv_iload_n hx hb dX4_clip_23 rfl (lv_at hl 1 rfl) ?_
          refine lv_sipush (v := 9999) hx hb dX4_clip_24 (by decide) ?_
          refine va_iast (f := M_2 7) hx hb hK hP hD hS 8 0 rfl rfl (by rw [ex1_2]; exact vp_of_B (ix_2 j_2 hj_2)) dX4_clip_27 (fun H3 locs hP hD hS => ?_)
          have hP : va_P (dC, dI) vwCl (cSt a cI (sU M_2 7 x1_2.toNatClampNeg 9999)) H3 := hP
          have hD : va_D (va_A (cSt a cI M) s.heap.size) (cSt a cI (sU M_2 7 x1_2.toNatClampNeg 9999)) := hD
          obtain ⟨Mn4, eMn4⟩ : ∃ z : SR, z = sU M_2 7 x1_2.toNatClampNeg 9999 := ⟨_, rfl⟩
          rw [sLet_eq, ← eMn4] at hR
          rw [← eMn4] at hP hD
          have hW5 : WF Mn4 := (by rw [eMn4]; exact hW_2)
          refine lv_aload_n hx hb dX4_clip_28 rfl (lv_at hl 0 rfl) ?_
          refine lv_dup hx hb dX4_clip_29 rfl ?_
          refine va_get (D := (dC, dI)) (ci := 4) (v := .int (Mn4 10 6)) (C := RX4) (T := TX4) (N := 18) hx hb hts hin4 hown hK hP 0 rfl rfl 14 (by decide) (hts (.fieldLink RX4 71 "FeedDesk$State" "clips" "I") (List.mem_of_getElem? (i := 2) rfl)) (fun _ h9 => h9) rfl dX4_clip_30 ?_
          refine lv_iconst (v := 1) hx hb dX4_clip_33 (by decide) ?_
          refine lv_iadd hx hb dX4_clip_34 ?_
          refine va_put (D := (dC, dI)) (ci := 4) (v := .int ((Mn4 10 6) + 1)) (ty := .int) (C := RX4) (T := TX4) (N := 18) hx hb hts hin4 tyX4 tyX4_ok nmX4 hown hK hP hD hS 0 rfl rfl 14 (by decide) (hts (.fieldLink RX4 71 "FeedDesk$State" "clips" "I") (List.mem_of_getElem? (i := 2) rfl)) (fun _ h9 => h9) rfl (by decide +kernel) rfl rfl (Nat.le_of_ble_eq_true rfl) dX4_clip_35 (fun H6 locs hP hD hS => ?_)
          have hP : va_P (dC, dI) vwCl (cSt a cI (sU Mn4 10 6 ((Mn4 10 6) + 1))) H6 := hP
          have hD : va_D (va_A (cSt a cI M) s.heap.size) (cSt a cI (sU Mn4 10 6 ((Mn4 10 6) + 1))) := hD
          obtain ⟨Mn7, eMn7⟩ : ∃ z : SR, z = sU Mn4 10 6 ((Mn4 10 6) + 1) := ⟨_, rfl⟩
          rw [sLet_eq, ← eMn7] at hR
          rw [← eMn7] at hP hD
          have hW8 : WF Mn7 := (by rw [eMn7]; exact hW5)
          refine lv_iinc (v := x1_2 + 1) (lv' := [(1, .int (x1_2 + 1)), (0, .ref (a 0))]) hx hb dX4_clip_38 hl (k := 1) rfl rfl (by decide) rfl (fun ls hl => ?_)
          refine lv_goto (tgt := 2) hx hb dX4_clip_41 (by decide) ?_
          exact ih_2 (j_2 + 1) (x1_2 + 1) Mn7 (by rw [ex1_2, nI_1]) (by omega) (by omega) hW8 hR _ _ _ hP hD hS (lv_sub hl [1, 0] rfl)
  exact hL_2 5 0 0 M (by decide +kernel) (by decide) (by decide) hW hR _ _ _ hP hD hS (lv_sub hl [1, 0] rfl)
abbrev rm_X4_mix : Room := { frames := 3, cells := 0, slots := 0, locals := 65 }
def f_X4_mix_p61  (kb27 : Int32 → SR → SR) : Nat → Int32 → Int32 → Int32 → SR → SR
  | 0, _, _, _, M_61 => M_61
  | n_61 + 1, x1_61, x2_61, x3_61, M_61 => (if 4 ≤ x3_61 then kb27 (x1_61 + 1) M_61 else sLet (sU M_61 7 x3_61.toNatClampNeg ((M_61 7 x3_61.toNatClampNeg) + (((M_61 6 x1_61.toNatClampNeg) * (f_X4_gainAt M_61 x3_61 x1_61 x2_61)) / 100))) (fun Mn23 : SR => (f_X4_mix_p61 kb27 n_61) x1_61 x2_61 (x3_61 + 1) Mn23))
def f_X4_mix_p27   : Nat → Int32 → SR → SR
  | 0, _, M_27 => M_27
  | n_27 + 1, x1_27, M_27 => (if 12 ≤ x1_27 then sLet ((f_X4_clip M_27)) (fun Mn9 : SR => sLet (sU Mn9 10 5 (if (Mn9 10 5) < (Mn9 10 4) then (Mn9 10 4) else (Mn9 10 5))) (fun Mn12 : SR => Mn12)) else sLet (sU M_27 10 4 ((M_27 10 4) + (((M_27 6 x1_27.toNatClampNeg) * (f_X4_levelOf M_27 x1_27)) / 100))) (fun Mn17 : SR => f_X4_mix_p61 (f_X4_mix_p27 n_27) 5 x1_27 (f_X4_levelOf M_27 x1_27) 0 Mn17))
def f_X4_mix_p2   : Nat → Int32 → SR → SR
  | 0, _, M_2 => M_2
  | n_2 + 1, x1_2, M_2 => (if 4 ≤ x1_2 then sLet (sU M_2 10 4 0) (fun Mn3 : SR => f_X4_mix_p27 13 0 Mn3) else sLet (sU M_2 7 x1_2.toNatClampNeg 0) (fun Mn26 : SR => (f_X4_mix_p2 n_2) (x1_2 + 1) Mn26))
def f_X4_mix (M : SR)  : SR := f_X4_mix_p2 5 0 M
set_option maxHeartbeats 4000000 in
set_option maxRecDepth 100000 in
theorem c_X4_mix (l : Launch) (dC : Nat → ClassId) (dI : Nat → Nat → Nat) (cI cC cS : ClassId) (a : Nat → Nat) (M : SR) (sz : Nat)  (hW : WF M) : Met l yX4_mix wsX4_mix rm_X4_mix (PcG (dC, dI) (tyL cI cC cS) (cSt a cI M) sz [.ref (a 0)]) (va_Qv (fun (u : SR) => u = f_X4_mix M ∧ (WF u)) (fun u U => va_P (dC, dI) vwCl (cSt a cI u) U.heap ∧ va_D (va_A (cSt a cI M) sz) (cSt a cI u)) (va_A (cSt a cI M) sz)) 0 0 (va_A (cSt a cI M) sz) := by
  refine Met.ofW (cc := cX4_mix) (maxL := 4) (ret := none) (by decide) rfl ?_
  intro p e s m args below meth c s₁ B hml hv
  obtain ⟨rfl, hsz, hP, hK, hD0, hN⟩ := hv
  have hx := B.exec
  have hb := B.bytes
  have hr := B.returns
  have hts := atoms_spec (ws := wsX4_mix) B.pre
  have hown : s.vm.findClass RX4 = some m.cls := findClass_of_methodNamed B.named
  have hlocks := B.notSynchronized
  subst hsz
  have hD := hD0.self (sz := s.heap.size)
  have hA : ∀ q : Nat, s.heap.size ≤ q → (va_A (cSt a cI M) s.heap.size) q := fun q h => Or.inr h
  have hS : va_S (va_A (cSt a cI M) s.heap.size) s.heap s.heap [] := va_S.rf
  have hin4 : ∀ w ∈ wsX40, w ∈ wsX4_mix := fun _ h => List.mem_cons_of_mem _ (List.mem_append_right _ h)
  have hl := lv_entry [.ref (a 0)] (n := 4) (Nat.le_of_ble_eq_true rfl)
  rw [lg_entry_eq]
  generalize (lg_sl [.ref (a 0)] ++ List.replicate (4 - (lg_sl [.ref (a 0)]).length) Slot.unset).toArray = ls at hl ⊢
  have hl : lv_has ls 4 [(0, .ref (a 0))] := hl
  obtain ⟨R0, eR⟩ : ∃ z, z = f_X4_mix M := ⟨_, rfl⟩
  have hR := eR
  rw [f_X4_mix] at hR
  refine lv_iconst (v := 0) hx hb dX4_mix_0 (by decide) ?_
  refine lv_istore_n (lv' := [(1, .int 0), (0, .ref (a 0))]) hx hb dX4_mix_1 rfl hl (by decide) rfl (fun ls hl => ?_)
  have hL_2 : ∀ n_2 : Nat, ∀ (j_2 : Nat), ∀ (x1_2 : Int32) (M_2 : SR), x1_2 = nI j_2 → j_2 ≤ 4 → 4 < j_2 + n_2 → WF M_2 → R0 = f_X4_mix_p2 n_2 x1_2 M_2 → ∀ (H : Heap) (locs : List Loc) (ls : Array Slot), va_P (dC, dI) vwCl (cSt a cI M_2) H → va_D (va_A (cSt a cI M) s.heap.size) (cSt a cI M_2) → va_S (va_A (cSt a cI M) s.heap.size) s.heap H locs → lv_has ls 4 [(0, .ref (a 0)), (1, .int x1_2)] → W p l e (headSpec wsX4_mix rm_X4_mix).room s m ([.ref (a 0)] : List Value).toArray below meth c H locs 0 0 (MQ below (va_Qv (fun (u : SR) => u = f_X4_mix M ∧ (WF u)) (fun u U => va_P (dC, dI) vwCl (cSt a cI u) U.heap ∧ va_D (va_A (cSt a cI M) s.heap.size) (cSt a cI u)) (va_A (cSt a cI M) s.heap.size)) ([.ref (a 0)] : List Value).toArray s 0 0 (va_A (cSt a cI M) s.heap.size)) (F0 m 2 ls []) := by
    intro n_2
    induction n_2 with
    | zero =>
      intro j_2 x1_2 M_2 ex1_2 hj0_2 hn_2 hW_2
      exact absurd hn_2 (by omega)
    | succ n_2 ih_2 =>
      intro j_2 x1_2 M_2 ex1_2 hj0_2 hn_2 hW_2 hR H locs ls hP hD hS hl
      rw [f_X4_mix_p2] at hR
      refine lv_iload_n hx hb dX4_mix_2 rfl (lv_at hl 1 rfl) ?_
      refine lv_iconst (v := 4) hx hb dX4_mix_3 (by decide) ?_
      refine lv_icmp_ge (tgt := 20) hx hb dX4_mix_4 (by decide) (fun c1 => ?_) (fun c1 => ?_)
      · rw [if_pos c1] at hR
        refine lv_aload_n hx hb dX4_mix_20 rfl (lv_at hl 0 rfl) ?_
        refine lv_iconst (v := 0) hx hb dX4_mix_21 (by decide) ?_
        refine va_put (D := (dC, dI)) (ci := 4) (v := .int 0) (ty := .int) (C := RX4) (T := TX4) (N := 18) hx hb hts hin4 tyX4 tyX4_ok nmX4 hown hK hP hD hS 0 rfl rfl 12 (by decide) (hts (.fieldLink RX4 65 "FeedDesk$State" "mainSum" "I") (List.mem_of_getElem? (i := 2) rfl)) (fun _ h9 => h9) rfl (by decide +kernel) rfl rfl (Nat.le_of_ble_eq_true rfl) dX4_mix_22 (fun H2 locs hP hD hS => ?_)
        have hP : va_P (dC, dI) vwCl (cSt a cI (sU M_2 10 4 0)) H2 := hP
        have hD : va_D (va_A (cSt a cI M) s.heap.size) (cSt a cI (sU M_2 10 4 0)) := hD
        obtain ⟨Mn3, eMn3⟩ : ∃ z : SR, z = sU M_2 10 4 0 := ⟨_, rfl⟩
        rw [sLet_eq, ← eMn3] at hR
        rw [← eMn3] at hP hD
        have hW4 : WF Mn3 := (by rw [eMn3]; exact hW_2)
        refine lv_iconst (v := 0) hx hb dX4_mix_25 (by decide) ?_
        refine lv_istore_n (lv' := [(1, .int 0), (0, .ref (a 0))]) hx hb dX4_mix_26 rfl hl (by decide) rfl (fun ls hl => ?_)
        have hL_27 : ∀ n_27 : Nat, ∀ (j_27 : Nat), ∀ (x1_27 : Int32) (M_27 : SR), x1_27 = nI j_27 → j_27 ≤ 12 → 12 < j_27 + n_27 → WF M_27 → R0 = f_X4_mix_p27 n_27 x1_27 M_27 → ∀ (H : Heap) (locs : List Loc) (ls : Array Slot), va_P (dC, dI) vwCl (cSt a cI M_27) H → va_D (va_A (cSt a cI M) s.heap.size) (cSt a cI M_27) → va_S (va_A (cSt a cI M) s.heap.size) s.heap H locs → lv_has ls 4 [(0, .ref (a 0)), (1, .int x1_27)] → W p l e (headSpec wsX4_mix rm_X4_mix).room s m ([.ref (a 0)] : List Value).toArray below meth c H locs 0 0 (MQ below (va_Qv (fun (u : SR) => u = f_X4_mix M ∧ (WF u)) (fun u U => va_P (dC, dI) vwCl (cSt a cI u) U.heap ∧ va_D (va_A (cSt a cI M) s.heap.size) (cSt a cI u)) (va_A (cSt a cI M) s.heap.size)) ([.ref (a 0)] : List Value).toArray s 0 0 (va_A (cSt a cI M) s.heap.size)) (F0 m 27 ls []) := by
          intro n_27
          induction n_27 with
          | zero =>
            intro j_27 x1_27 M_27 ex1_27 hj0_27 hn_27 hW_27
            exact absurd hn_27 (by omega)
          | succ n_27 ih_27 =>
            intro j_27 x1_27 M_27 ex1_27 hj0_27 hn_27 hW_27 hR H locs ls hP hD hS hl
            rw [f_X4_mix_p27] at hR
            refine lv_iload_n hx hb dX4_mix_27 rfl (lv_at hl 1 rfl) ?_
            refine lv_bipush (v := 12) hx hb dX4_mix_28 (by decide) ?_
            refine lv_icmp_ge (tgt := 104) hx hb dX4_mix_30 (by decide) (fun c5 => ?_) (fun c5 => ?_)
            · rw [if_pos c5] at hR
              refine lv_aload_n hx hb dX4_mix_104 rfl (lv_at hl 0 rfl) ?_
              have hPc : va_P (dC, dI) vwCl (cSt a cI M_27) H := hP.sub [0, 1, 2, 3, 4, 5, 6, 7, 8, 9, 10, 11] rfl
              have hDc : va_D (va_A (cSt a cI M) s.heap.size) (cSt a cI M_27) := hD.sub [0, 1, 2, 3, 4, 5, 6, 7, 8, 9, 10, 11] (by decide) rfl
              have hFc : ∀ q : Nat, va_A (cSt a cI M_27) H.size q → (va_A (cSt a cI M) s.heap.size) q := va_free hD hS hA [0, 1, 2, 3, 4, 5, 6, 7, 8, 9, 10, 11] rfl
              refine va_callv (va_runV (As := []) (rest := []) ⟨hx, hb, hml, hown, hts⟩ (c_X4_clip l dC dI cI cC cS a M_27 H.size hW_27) (cwV 0 hts gX4_mix_X4_clip rfl rfl rfl (by decide +kernel) ⟨Nat.le_of_ble_eq_true rfl, Nat.le_of_ble_eq_true rfl⟩) (pV (q0 := 0) hK hPc hDc hN rfl rfl) rfl rfl hl.1 rfl (lv_room (Nat.le_of_ble_eq_true rfl)) dX4_mix_105 ⟨Nat.le_of_ble_eq_true rfl, Nat.le_of_ble_eq_true rfl⟩) hS (fun q _ h => hFc q h) hFc (fun u_6 t_6 H7 locs ht hvm hw hB hz1 hk1 hS => ?_)
              obtain ⟨hw, hens8⟩ := hw
              obtain ⟨hP1, hD1⟩ := hB
              rw [ht] at hP1
              subst hw
              obtain ⟨hP, hD⟩ := va_join (wc := cSt a cI M_27) (wr := []) (w1 := cSt a cI (f_X4_clip M_27)) hP hD [0, 1, 2, 3, 4, 5, 6, 7, 8, 9, 10, 11] [] rfl rfl (by decide) (by decide) hk1 hFc hP1 hD1
              have hP : va_P (dC, dI) vwCl (cSt a cI (f_X4_clip M_27)) H7 := hP.sub [0, 1, 2, 3, 4, 5, 6, 7, 8, 9, 10, 11] rfl
              have hD : va_D (va_A (cSt a cI M) s.heap.size) (cSt a cI (f_X4_clip M_27)) := hD.sub [0, 1, 2, 3, 4, 5, 6, 7, 8, 9, 10, 11] (by decide) rfl
              obtain ⟨Mn9, eMn9⟩ : ∃ z : SR, z = (f_X4_clip M_27) := ⟨_, rfl⟩
              rw [sLet_eq, ← eMn9] at hR
              rw [← eMn9] at hP hD
              have hW10 : WF Mn9 := by rw [eMn9]; exact hens8
              refine lv_aload_n hx hb dX4_mix_108 rfl (lv_at hl 0 rfl) ?_
              refine lv_aload_n hx hb dX4_mix_109 rfl (lv_at hl 0 rfl) ?_
              refine va_get (D := (dC, dI)) (ci := 4) (v := .int (Mn9 10 5)) (C := RX4) (T := TX4) (N := 18) hx hb hts hin4 hown hK hP 0 rfl rfl 13 (by decide) (hts (.fieldLink RX4 68 "FeedDesk$State" "peak" "I") (List.mem_of_getElem? (i := 4) rfl)) (fun _ h9 => h9) rfl dX4_mix_110 ?_
              refine lv_aload_n hx hb dX4_mix_113 rfl (lv_at hl 0 rfl) ?_
              refine va_get (D := (dC, dI)) (ci := 4) (v := .int (Mn9 10 4)) (C := RX4) (T := TX4) (N := 18) hx hb hts hin4 hown hK hP 0 rfl rfl 12 (by decide) (hts (.fieldLink RX4 65 "FeedDesk$State" "mainSum" "I") (List.mem_of_getElem? (i := 2) rfl)) (fun _ h9 => h9) rfl dX4_mix_114 ?_
              refine va_mmax hx hb (hml.trans hl.1.symm) hown (hts (.methodLink RX4 158 Lib.Math.max.name) (List.mem_of_getElem? (i := 5) rfl)) (hts (.static Lib.Math.max.name) (List.mem_of_getElem? (i := 6) rfl)) (hts (.initialized "java/lang/Math") (List.mem_of_getElem? (i := 7) rfl)) (hts (.code Lib.Math.max.name Lib.Math.max.code 2 (some .int)) (List.mem_of_getElem? (i := 8) rfl)) (Nat.le_of_ble_eq_true rfl) (Nat.le_of_ble_eq_true rfl) (Nat.le_of_ble_eq_true rfl) (Nat.le_of_ble_eq_true rfl) dX4_mix_117 ?_
              refine va_put (D := (dC, dI)) (ci := 4) (v := .int (if (Mn9 10 5) < (Mn9 10 4) then (Mn9 10 4) else (Mn9 10 5))) (ty := .int) (C := RX4) (T := TX4) (N := 18) hx hb hts hin4 tyX4 tyX4_ok nmX4 hown hK hP hD hS 0 rfl rfl 13 (by decide) (hts (.fieldLink RX4 68 "FeedDesk$State" "peak" "I") (List.mem_of_getElem? (i := 4) rfl)) (fun _ h9 => h9) rfl (by decide +kernel) rfl rfl (Nat.le_of_ble_eq_true rfl) dX4_mix_120 (fun H11 locs hP hD hS => ?_)
              have hP : va_P (dC, dI) vwCl (cSt a cI (sU Mn9 10 5 (if (Mn9 10 5) < (Mn9 10 4) then (Mn9 10 4) else (Mn9 10 5)))) H11 := hP
              have hD : va_D (va_A (cSt a cI M) s.heap.size) (cSt a cI (sU Mn9 10 5 (if (Mn9 10 5) < (Mn9 10 4) then (Mn9 10 4) else (Mn9 10 5)))) := hD
              obtain ⟨Mn12, eMn12⟩ : ∃ z : SR, z = sU Mn9 10 5 (if (Mn9 10 5) < (Mn9 10 4) then (Mn9 10 4) else (Mn9 10 5)) := ⟨_, rfl⟩
              rw [sLet_eq, ← eMn12] at hR
              rw [← eMn12] at hP hD
              have hW13 : WF Mn12 := (by rw [eMn12]; exact hW10)
              exact W.vret hx hb hr (fun t ht hWw => ⟨⟨Mn12, rfl, ⟨hR.symm.trans eR, hW13⟩, by rw [ht]; exact hP, hD⟩, hS.F ht⟩) hS.2.2 dX4_mix_123
            · rw [if_neg c5] at hR
              have hj_27 : j_27 < 12 := lp_ge ex1_27 (by decide +kernel) (by omega) (by omega) c5
              refine lv_aload_n hx hb dX4_mix_33 rfl (lv_at hl 0 rfl) ?_
              refine lv_iload_n hx hb dX4_mix_34 rfl (lv_at hl 1 rfl) ?_
              have hPc : va_P (dC, dI) vwCl (cSt a cI M_27) H := hP.sub [0, 1, 2, 3, 4, 5, 6, 7, 8, 9, 10, 11] rfl
              have hDc : va_D (va_A (cSt a cI M) s.heap.size) (cSt a cI M_27) := hD.sub [0, 1, 2, 3, 4, 5, 6, 7, 8, 9, 10, 11] (by decide) rfl
              have hFc : ∀ q : Nat, va_A [] H.size q → (va_A (cSt a cI M) s.heap.size) q := roF hS hA
              refine va_calli (va_runV (As := [.int x1_27]) (rest := []) ⟨hx, hb, hml, hown, hts⟩ (c_X4_levelOf l dC dI cI cC cS a M_27 H.size x1_27 (by rw [ex1_27]; exact vp_of_B (ix_1 j_27 hj_27))) (cwV 1 hts gX4_mix_X4_levelOf rfl rfl rfl (by decide +kernel) ⟨Nat.le_of_ble_eq_true rfl, Nat.le_of_ble_eq_true rfl⟩) (pV (q0 := 0) hK hPc hDc hN rfl rfl) rfl rfl hl.1 rfl (lv_room (Nat.le_of_ble_eq_true rfl)) dX4_mix_35 ⟨Nat.le_of_ble_eq_true rfl, Nat.le_of_ble_eq_true rfl⟩) hS (fun q _ h => hFc q h) hFc (fun r_14 u_14 t_14 H15 locs ht hvm hw hB hz1 hk1 hS => ?_)
              subst hw
              have hP := ro_keep hP hk1
              refine lv_istore_n (lv' := [(2, .int (f_X4_levelOf M_27 x1_27)), (0, .ref (a 0)), (1, .int x1_27)]) hx hb dX4_mix_38 rfl hl (by decide) rfl (fun ls hl => ?_)
              refine lv_aload_n hx hb dX4_mix_39 rfl (lv_at hl 1 rfl) ?_
              refine lv_dup hx hb dX4_mix_40 rfl ?_
              refine va_get (D := (dC, dI)) (ci := 4) (v := .int (M_27 10 4)) (C := RX4) (T := TX4) (N := 18) hx hb hts hin4 hown hK hP 0 rfl rfl 12 (by decide) (hts (.fieldLink RX4 65 "FeedDesk$State" "mainSum" "I") (List.mem_of_getElem? (i := 2) rfl)) (fun _ h9 => h9) rfl dX4_mix_41 ?_
              refine lv_aload_n hx hb dX4_mix_44 rfl (lv_at hl 1 rfl) ?_
              refine va_get (D := (dC, dI)) (ci := 4) (v := .ref (a 7)) (C := RX4) (T := TX4) (N := 18) hx hb hts hin4 hown hK hP 0 rfl rfl 9 (by decide) (hts (.fieldLink RX4 30 "FeedDesk$State" "signal" "[I") (List.mem_of_getElem? (i := 3) rfl)) (fun _ h9 => h9) rfl dX4_mix_45 ?_
              refine lv_iload_n hx hb dX4_mix_48 rfl (lv_at hl 2 rfl) ?_
              refine va_iald (f := M_27 6) hx hb hK hP 7 0 rfl rfl (by rw [ex1_27]; exact vp_of_B (ix_1 j_27 hj_27)) dX4_mix_49 ?_
              refine lv_iload_n hx hb dX4_mix_50 rfl (lv_at hl 0 rfl) ?_
              refine lv_imul hx hb dX4_mix_51 ?_
              refine lv_bipush (v := 100) hx hb dX4_mix_52 (by decide) ?_
              refine lv_idiv hx hb dX4_mix_54 (by decide) ?_
              refine lv_iadd hx hb dX4_mix_55 ?_
              refine va_put (D := (dC, dI)) (ci := 4) (v := .int ((M_27 10 4) + (((M_27 6 x1_27.toNatClampNeg) * (f_X4_levelOf M_27 x1_27)) / 100))) (ty := .int) (C := RX4) (T := TX4) (N := 18) hx hb hts hin4 tyX4 tyX4_ok nmX4 hown hK hP hD hS 0 rfl rfl 12 (by decide) (hts (.fieldLink RX4 65 "FeedDesk$State" "mainSum" "I") (List.mem_of_getElem? (i := 2) rfl)) (fun _ h9 => h9) rfl (by decide +kernel) rfl rfl (Nat.le_of_ble_eq_true rfl) dX4_mix_56 (fun H16 locs hP hD hS => ?_)
              have hP : va_P (dC, dI) vwCl (cSt a cI (sU M_27 10 4 ((M_27 10 4) + (((M_27 6 x1_27.toNatClampNeg) * (f_X4_levelOf M_27 x1_27)) / 100)))) H16 := hP
              have hD : va_D (va_A (cSt a cI M) s.heap.size) (cSt a cI (sU M_27 10 4 ((M_27 10 4) + (((M_27 6 x1_27.toNatClampNeg) * (f_X4_levelOf M_27 x1_27)) / 100)))) := hD
              obtain ⟨Mn17, eMn17⟩ : ∃ z : SR, z = sU M_27 10 4 ((M_27 10 4) + (((M_27 6 x1_27.toNatClampNeg) * (f_X4_levelOf M_27 x1_27)) / 100)) := ⟨_, rfl⟩
              rw [sLet_eq, ← eMn17] at hR
              rw [← eMn17] at hP hD
              have hW18 : WF Mn17 := (by rw [eMn17]; exact hW_27)
              refine lv_iconst (v := 0) hx hb dX4_mix_59 (by decide) ?_
              refine lv_istore_n (lv' := [(3, .int 0), (2, .int (f_X4_levelOf M_27 x1_27)), (0, .ref (a 0)), (1, .int x1_27)]) hx hb dX4_mix_60 rfl hl (by decide) rfl (fun ls hl => ?_)
              have hL_61 : ∀ n_61 : Nat, ∀ (j_61 : Nat), ∀ (x1_61 : Int32) (x2_61 : Int32) (x3_61 : Int32) (M_61 : SR), x3_61 = nI j_61 → j_61 ≤ 4 → 4 < j_61 + n_61 → x1_61 = nI j_27 → WF M_61 → R0 = f_X4_mix_p61 (f_X4_mix_p27 n_27) n_61 x1_61 x2_61 x3_61 M_61 → ∀ (H : Heap) (locs : List Loc) (ls : Array Slot), va_P (dC, dI) vwCl (cSt a cI M_61) H → va_D (va_A (cSt a cI M) s.heap.size) (cSt a cI M_61) → va_S (va_A (cSt a cI M) s.heap.size) s.heap H locs → lv_has ls 4 [(0, .ref (a 0)), (1, .int x1_61), (2, .int x2_61), (3, .int x3_61)] → W p l e (headSpec wsX4_mix rm_X4_mix).room s m ([.ref (a 0)] : List Value).toArray below meth c H locs 0 0 (MQ below (va_Qv (fun (u : SR) => u = f_X4_mix M ∧ (WF u)) (fun u U => va_P (dC, dI) vwCl (cSt a cI u) U.heap ∧ va_D (va_A (cSt a cI M) s.heap.size) (cSt a cI u)) (va_A (cSt a cI M) s.heap.size)) ([.ref (a 0)] : List Value).toArray s 0 0 (va_A (cSt a cI M) s.heap.size)) (F0 m 61 ls []) := by
                intro n_61
                induction n_61 with
                | zero =>
                  intro j_61 x1_61 x2_61 x3_61 M_61 ex3_61 hj0_61 hn_61 ex1_61 hW_61
                  exact absurd hn_61 (by omega)
                | succ n_61 ih_61 =>
                  intro j_61 x1_61 x2_61 x3_61 M_61 ex3_61 hj0_61 hn_61 ex1_61 hW_61 hR H locs ls hP hD hS hl
                  rw [f_X4_mix_p61] at hR
                  refine lv_iload_n hx hb dX4_mix_61 rfl (lv_at hl 3 rfl) ?_
                  refine lv_iconst (v := 4) hx hb dX4_mix_62 (by decide) ?_
                  refine lv_icmp_ge (tgt := 98) hx hb dX4_mix_63 (by decide) (fun c19 => ?_) (fun c19 => ?_)
                  · rw [if_pos c19] at hR
                    refine lv_iinc (v := x1_61 + 1) (lv' := [(1, .int (x1_61 + 1)), (0, .ref (a 0)), (2, .int x2_61), (3, .int x3_61)]) hx hb dX4_mix_98 hl (k := 1) rfl rfl (by decide) rfl (fun ls hl => ?_)
                    refine lv_goto (tgt := 27) hx hb dX4_mix_101 (by decide) ?_
                    exact ih_27 (j_27 + 1) (x1_61 + 1) M_61 (by rw [ex1_61, nI_1]) (by omega) (by omega) hW_61 hR _ _ _ hP hD hS (lv_sub hl [1, 0] rfl)
                  · rw [if_neg c19] at hR
                    have hj_61 : j_61 < 4 := lp_ge ex3_61 (by decide +kernel) (by omega) (by omega) c19
                    refine lv_aload_n hx hb dX4_mix_66 rfl (lv_at hl 0 rfl) ?_
                    refine va_get (D := (dC, dI)) (ci := 4) (v := .ref (a 8)) (C := RX4) (T := TX4) (N := 18) hx hb hts hin4 hown hK hP 0 rfl rfl 10 (by decide) (hts (.fieldLink RX4 33 "FeedDesk$State" "output" "[I") (List.mem_of_getElem? (i := 1) rfl)) (fun _ h9 => h9) rfl dX4_mix_67 ?_
                    refine lv_iload_n hx hb dX4_mix_70 rfl (lv_at hl 3 rfl) ?_
                    refine lv_dup2_11 hx hb dX4_mix_71 rfl rfl ?_
                    refine va_iald (f := M_61 7) hx hb hK hP 8 0 rfl rfl (by rw [ex3_61]; exact vp_of_B (ix_2 j_61 hj_61)) dX4_mix_72 ?_
                    refine lv_aload_n hx hb dX4_mix_73 rfl (lv_at hl 0 rfl) ?_
                    refine va_get (D := (dC, dI)) (ci := 4) (v := .ref (a 7)) (C := RX4) (T := TX4) (N := 18) hx hb hts hin4 hown hK hP 0 rfl rfl 9 (by decide) (hts (.fieldLink RX4 30 "FeedDesk$State" "signal" "[I") (List.mem_of_getElem? (i := 3) rfl)) (fun _ h9 => h9) rfl dX4_mix_74 ?_
                    refine lv_iload_n hx hb dX4_mix_77 rfl (lv_at hl 1 rfl) ?_
                    refine va_iald (f := M_61 6) hx hb hK hP 7 0 rfl rfl (by rw [ex1_61]; exact vp_of_B (ix_1 j_27 hj_27)) dX4_mix_78 ?_
                    refine lv_aload_n hx hb dX4_mix_79 rfl (lv_at hl 0 rfl) ?_
                    refine lv_iload_n hx hb dX4_mix_80 rfl (lv_at hl 3 rfl) ?_
                    refine lv_iload_n hx hb dX4_mix_81 rfl (lv_at hl 1 rfl) ?_
                    refine lv_iload_n hx hb dX4_mix_82 rfl (lv_at hl 2 rfl) ?_
                    have hPc : va_P (dC, dI) vwCl (cSt a cI M_61) H := hP.sub [0, 1, 2, 3, 4, 5, 6, 7, 8, 9, 10, 11] rfl
                    have hDc : va_D (va_A (cSt a cI M) s.heap.size) (cSt a cI M_61) := hD.sub [0, 1, 2, 3, 4, 5, 6, 7, 8, 9, 10, 11] (by decide) rfl
                    have hFc : ∀ q : Nat, va_A [] H.size q → (va_A (cSt a cI M) s.heap.size) q := roF hS hA
                    refine va_calli (va_runV (As := [.int x3_61, .int x1_61, .int x2_61]) (rest := [.int (M_61 6 x1_61.toNatClampNeg), .int (M_61 7 x3_61.toNatClampNeg), .int x3_61, .ref (a 8)]) ⟨hx, hb, hml, hown, hts⟩ (c_X4_gainAt l dC dI cI cC cS a M_61 H.size x3_61 x1_61 x2_61 (by rw [ex3_61]; exact vp_of_B (ix_2 j_61 hj_61)) (by rw [ex1_61]; exact vp_of_B (ix_1 j_27 hj_27))) (cwV 3 hts gX4_mix_X4_gainAt rfl rfl rfl (by decide +kernel) ⟨Nat.le_of_ble_eq_true rfl, Nat.le_of_ble_eq_true rfl⟩) (pV (q0 := 0) hK hPc hDc hN rfl rfl) rfl rfl hl.1 rfl (lv_room (Nat.le_of_ble_eq_true rfl)) dX4_mix_83 ⟨Nat.le_of_ble_eq_true rfl, Nat.le_of_ble_eq_true rfl⟩) hS (fun q _ h => hFc q h) hFc (fun r_20 u_20 t_20 H21 locs ht hvm hw hB hz1 hk1 hS => ?_)
                    subst hw
                    have hP := ro_keep hP hk1
                    refine lv_imul hx hb dX4_mix_86 ?_
                    refine lv_bipush (v := 100) hx hb dX4_mix_87 (by decide) ?_
                    refine lv_idiv hx hb dX4_mix_89 (by decide) ?_
                    refine lv_iadd hx hb dX4_mix_90 ?_
                    refine va_iast (f := M_61 7) hx hb hK hP hD hS 8 0 rfl rfl (by rw [ex3_61]; exact vp_of_B (ix_2 j_61 hj_61)) dX4_mix_91 (fun H22 locs hP hD hS => ?_)
                    have hP : va_P (dC, dI) vwCl (cSt a cI (sU M_61 7 x3_61.toNatClampNeg ((M_61 7 x3_61.toNatClampNeg) + (((M_61 6 x1_61.toNatClampNeg) * (f_X4_gainAt M_61 x3_61 x1_61 x2_61)) / 100)))) H22 := hP
                    have hD : va_D (va_A (cSt a cI M) s.heap.size) (cSt a cI (sU M_61 7 x3_61.toNatClampNeg ((M_61 7 x3_61.toNatClampNeg) + (((M_61 6 x1_61.toNatClampNeg) * (f_X4_gainAt M_61 x3_61 x1_61 x2_61)) / 100)))) := hD
                    obtain ⟨Mn23, eMn23⟩ : ∃ z : SR, z = sU M_61 7 x3_61.toNatClampNeg ((M_61 7 x3_61.toNatClampNeg) + (((M_61 6 x1_61.toNatClampNeg) * (f_X4_gainAt M_61 x3_61 x1_61 x2_61)) / 100)) := ⟨_, rfl⟩
                    rw [sLet_eq, ← eMn23] at hR
                    rw [← eMn23] at hP hD
                    have hW24 : WF Mn23 := (by rw [eMn23]; exact hW_61)
                    refine lv_iinc (v := x3_61 + 1) (lv' := [(3, .int (x3_61 + 1)), (0, .ref (a 0)), (1, .int x1_61), (2, .int x2_61)]) hx hb dX4_mix_92 hl (k := 3) rfl rfl (by decide) rfl (fun ls hl => ?_)
                    refine lv_goto (tgt := 61) hx hb dX4_mix_95 (by decide) ?_
                    exact ih_61 (j_61 + 1) x1_61 x2_61 (x3_61 + 1) Mn23 (by rw [ex3_61, nI_1]) (by omega) (by omega) ex1_61 hW24 hR _ _ _ hP hD hS (lv_sub hl [1, 2, 3, 0] rfl)
              exact hL_61 5 0 x1_27 (f_X4_levelOf M_27 x1_27) 0 Mn17 (by decide +kernel) (by decide) (by decide) ex1_27 hW18 hR _ _ _ hP hD hS (lv_sub hl [2, 3, 1, 0] rfl)
        exact hL_27 13 0 0 Mn3 (by decide +kernel) (by decide) (by decide) hW4 hR _ _ _ hP hD hS (lv_sub hl [1, 0] rfl)
      · rw [if_neg c1] at hR
        have hj_2 : j_2 < 4 := lp_ge ex1_2 (by decide +kernel) (by omega) (by omega) c1
        refine lv_aload_n hx hb dX4_mix_7 rfl (lv_at hl 0 rfl) ?_
        refine va_get (D := (dC, dI)) (ci := 4) (v := .ref (a 8)) (C := RX4) (T := TX4) (N := 18) hx hb hts hin4 hown hK hP 0 rfl rfl 10 (by decide) (hts (.fieldLink RX4 33 "FeedDesk$State" "output" "[I") (List.mem_of_getElem? (i := 1) rfl)) (fun _ h9 => h9) rfl dX4_mix_8 ?_
        refine lv_iload_n hx hb dX4_mix_11 rfl (lv_at hl 1 rfl) ?_
        refine lv_iconst (v := 0) hx hb dX4_mix_12 (by decide) ?_
        refine va_iast (f := M_2 7) hx hb hK hP hD hS 8 0 rfl rfl (by rw [ex1_2]; exact vp_of_B (ix_2 j_2 hj_2)) dX4_mix_13 (fun H25 locs hP hD hS => ?_)
        have hP : va_P (dC, dI) vwCl (cSt a cI (sU M_2 7 x1_2.toNatClampNeg 0)) H25 := hP
        have hD : va_D (va_A (cSt a cI M) s.heap.size) (cSt a cI (sU M_2 7 x1_2.toNatClampNeg 0)) := hD
        obtain ⟨Mn26, eMn26⟩ : ∃ z : SR, z = sU M_2 7 x1_2.toNatClampNeg 0 := ⟨_, rfl⟩
        rw [sLet_eq, ← eMn26] at hR
        rw [← eMn26] at hP hD
        have hW27 : WF Mn26 := (by rw [eMn26]; exact hW_2)
        refine lv_iinc (v := x1_2 + 1) (lv' := [(1, .int (x1_2 + 1)), (0, .ref (a 0))]) hx hb dX4_mix_14 hl (k := 1) rfl rfl (by decide) rfl (fun ls hl => ?_)
        refine lv_goto (tgt := 2) hx hb dX4_mix_17 (by decide) ?_
        exact ih_2 (j_2 + 1) (x1_2 + 1) Mn26 (by rw [ex1_2, nI_1]) (by omega) (by omega) hW27 hR _ _ _ hP hD hS (lv_sub hl [1, 0] rfl)
  exact hL_2 5 0 0 M (by decide +kernel) (by decide) (by decide) hW hR _ _ _ hP hD hS (lv_sub hl [1, 0] rfl)
abbrev rm_X4_stepFade : Room := { frames := 2, cells := 0, slots := 0, locals := 42 }
def f_X4_stepFade_p117     (M_117 : SR) : SR := (if (M_117 11 1) < (M_117 11 2) then M_117 else sLet (mFd M_117 (f_X0_end M_117)) (fun Mn12 : SR => Mn12))
def f_X4_stepFade_p26   : Nat → Int32 → Int32 → SR → SR
  | 0, _, _, M_26 => M_26
  | n_26 + 1, x1_26, x2_26, M_26 => (if 16 ≤ x2_26 then (if (f_X0_isInTheMiddle M_26) = 0 then f_X4_stepFade_p117 M_26 else sLet (sU M_26 10 0 (((M_26 10 0) &&& (M_26 11 3)) ||| ((M_26 8 (x1_26 + 16).toNatClampNeg) &&& ((M_26 11 3) ^^^ (-1))))) (fun Mn16 : SR => f_X4_stepFade_p117 Mn16)) else (if (f_X0_isTouched M_26 x2_26) = 0 then sLet (sU M_26 1 x2_26.toNatClampNeg (f_X0_positionOf M_26 x2_26 (M_26 8 (x1_26 + x2_26).toNatClampNeg))) (fun Mn25 : SR => (f_X4_stepFade_p26 n_26) x1_26 (x2_26 + 1) Mn25) else (f_X4_stepFade_p26 n_26) x1_26 (x2_26 + 1) M_26))
def f_X4_stepFade (M : SR)  : SR := sLet (sU M 11 1 ((M 11 1) + 1)) (fun Mn2 : SR => f_X4_stepFade_p26 17 ((M 11 0) * 17) 0 Mn2)
theorem ix_7 : ∀ q0 : Nat, q0 < 86 → vp_okB ((nI q0) + 16) 102 = true := by decide +kernel
theorem ix_8 : ∀ q0 : Nat, q0 < 86 → ∀ q1 : Nat, q1 < 16 → vp_okB ((nI q0) + (nI q1)) 102 = true := by decide +kernel
set_option maxHeartbeats 4000000 in
set_option maxRecDepth 100000 in
theorem c_X4_stepFade (l : Launch) (dC : Nat → ClassId) (dI : Nat → Nat → Nat) (cI cC cS : ClassId) (a : Nat → Nat) (M : SR) (sz : Nat)  (hW : WF M) : Met l yX4_stepFade wsX4_stepFade rm_X4_stepFade (PcG (dC, dI) (tyL cI cC cS) (cSt a cI M) sz [.ref (a 0)]) (va_Qv (fun (u : SR) => u = f_X4_stepFade M ∧ (WF u)) (fun u U => va_P (dC, dI) vwCl (cSt a cI u) U.heap ∧ va_D (va_A (cSt a cI M) sz) (cSt a cI u)) (va_A (cSt a cI M) sz)) 0 0 (va_A (cSt a cI M) sz) := by
  refine Met.ofW (cc := cX4_stepFade) (maxL := 3) (ret := none) (by decide) rfl ?_
  intro p e s m args below meth c s₁ B hml hv
  obtain ⟨rfl, hsz, hP, hK, hD0, hN⟩ := hv
  have hx := B.exec
  have hb := B.bytes
  have hr := B.returns
  have hts := atoms_spec (ws := wsX4_stepFade) B.pre
  have hown : s.vm.findClass RX4 = some m.cls := findClass_of_methodNamed B.named
  have hlocks := B.notSynchronized
  subst hsz
  have hD := hD0.self (sz := s.heap.size)
  have hA : ∀ q : Nat, s.heap.size ≤ q → (va_A (cSt a cI M) s.heap.size) q := fun q h => Or.inr h
  have hS : va_S (va_A (cSt a cI M) s.heap.size) s.heap s.heap [] := va_S.rf
  have hin4 : ∀ w ∈ wsX40, w ∈ wsX4_stepFade := fun _ h => List.mem_cons_of_mem _ (List.mem_append_left _ (List.mem_append_right _ h))
  have hin0 : ∀ w ∈ wsX00, w ∈ wsX4_stepFade := fun _ h => List.mem_cons_of_mem _ (List.mem_append_right _ h)
  obtain ⟨iT, hiT, eT⟩ := vp_in_of hW.2 (by decide)
  have eB : M 11 0 * 17 = nI (iT * 17) := by rw [eT]; exact (by decide +kernel : ∀ q : Nat, q < 6 → nI q * 17 = nI (q * 17)) iT hiT
  have hBT : iT * 17 < 86 := by omega
  have hl := lv_entry [.ref (a 0)] (n := 3) (Nat.le_of_ble_eq_true rfl)
  rw [lg_entry_eq]
  generalize (lg_sl [.ref (a 0)] ++ List.replicate (3 - (lg_sl [.ref (a 0)]).length) Slot.unset).toArray = ls at hl ⊢
  have hl : lv_has ls 3 [(0, .ref (a 0))] := hl
  obtain ⟨R0, eR⟩ : ∃ z, z = f_X4_stepFade M := ⟨_, rfl⟩
  have hR := eR
  rw [f_X4_stepFade] at hR
  refine lv_aload_n hx hb dX4_stepFade_0 rfl (lv_at hl 0 rfl) ?_
  refine va_get (D := (dC, dI)) (ci := 4) (v := .ref (a 10)) (C := RX4) (T := TX4) (N := 18) hx hb hts hin4 hown hK hP 0 rfl rfl 17 (by decide) (hts (.fieldLink RX4 42 "FeedDesk$State" "fade" "LFeedDesk$Fade;") (List.mem_of_getElem? (i := 1) rfl)) (fun _ h9 => h9) rfl dX4_stepFade_1 ?_
  refine va_getN (D := (dC, dI)) (ci := 0) (v := .int (M 11 0)) (C := RX0) (T := TX0) (N := 5) hx hb hts hin0 hown hK hP 10 rfl rfl 0 (by decide) (va_Nw.use rfl (hN.at 11 rfl)) (fun _ h9 => h9) rfl dX4_stepFade_4 ?_
  refine lv_bipush (v := 17) hx hb dX4_stepFade_7 (by decide) ?_
  refine lv_imul hx hb dX4_stepFade_9 ?_
  refine lv_istore_n (lv' := [(1, .int ((M 11 0) * 17)), (0, .ref (a 0))]) hx hb dX4_stepFade_10 rfl hl (by decide) rfl (fun ls hl => ?_)
  refine lv_aload_n hx hb dX4_stepFade_11 rfl (lv_at hl 1 rfl) ?_
  refine va_get (D := (dC, dI)) (ci := 4) (v := .ref (a 10)) (C := RX4) (T := TX4) (N := 18) hx hb hts hin4 hown hK hP 0 rfl rfl 17 (by decide) (hts (.fieldLink RX4 42 "FeedDesk$State" "fade" "LFeedDesk$Fade;") (List.mem_of_getElem? (i := 1) rfl)) (fun _ h9 => h9) rfl dX4_stepFade_12 ?_
  refine lv_dup hx hb dX4_stepFade_15 rfl ?_
  refine va_getN (D := (dC, dI)) (ci := 0) (v := .int (M 11 1)) (C := RX0) (T := TX0) (N := 5) hx hb hts hin0 hown hK hP 10 rfl rfl 1 (by decide) (va_Nw.use rfl (hN.at 13 rfl)) (fun _ h9 => h9) rfl dX4_stepFade_16 ?_
  refine lv_iconst (v := 1) hx hb dX4_stepFade_19 (by decide) ?_
  refine lv_iadd hx hb dX4_stepFade_20 ?_
  refine va_putN (D := (dC, dI)) (ci := 0) (v := .int ((M 11 1) + 1)) (ty := .int) (C := RX0) (T := TX0) (N := 5) hx hb hts hin0 tyX0 tyX0_ok nmX0 hown hK hP hD hS 10 rfl rfl 1 (by decide) (va_Nw.use rfl (hN.at 13 rfl)) (fun _ h9 => h9) rfl (by decide +kernel) rfl rfl (Nat.le_of_ble_eq_true rfl) dX4_stepFade_21 (fun H1 locs hP hD hS => ?_)
  have hP : va_P (dC, dI) vwCl (cSt a cI (sU M 11 1 ((M 11 1) + 1))) H1 := hP
  have hD : va_D (va_A (cSt a cI M) s.heap.size) (cSt a cI (sU M 11 1 ((M 11 1) + 1))) := hD
  obtain ⟨Mn2, eMn2⟩ : ∃ z : SR, z = sU M 11 1 ((M 11 1) + 1) := ⟨_, rfl⟩
  rw [sLet_eq, ← eMn2] at hR
  rw [← eMn2] at hP hD
  have hW3 : WF Mn2 := (by rw [eMn2]; exact hW)
  refine lv_iconst (v := 0) hx hb dX4_stepFade_24 (by decide) ?_
  refine lv_istore_n (lv' := [(2, .int 0), (1, .int ((M 11 0) * 17)), (0, .ref (a 0))]) hx hb dX4_stepFade_25 rfl hl (by decide) rfl (fun ls hl => ?_)
  have hL_26 : ∀ n_26 : Nat, ∀ (j_26 : Nat), ∀ (x1_26 : Int32) (x2_26 : Int32) (M_26 : SR), x2_26 = nI j_26 → j_26 ≤ 16 → 16 < j_26 + n_26 → x1_26 = nI (iT * 17) → WF M_26 → R0 = f_X4_stepFade_p26 n_26 x1_26 x2_26 M_26 → ∀ (H : Heap) (locs : List Loc) (ls : Array Slot), va_P (dC, dI) vwCl (cSt a cI M_26) H → va_D (va_A (cSt a cI M) s.heap.size) (cSt a cI M_26) → va_S (va_A (cSt a cI M) s.heap.size) s.heap H locs → lv_has ls 3 [(0, .ref (a 0)), (1, .int x1_26), (2, .int x2_26)] → W p l e (headSpec wsX4_stepFade rm_X4_stepFade).room s m ([.ref (a 0)] : List Value).toArray below meth c H locs 0 0 (MQ below (va_Qv (fun (u : SR) => u = f_X4_stepFade M ∧ (WF u)) (fun u U => va_P (dC, dI) vwCl (cSt a cI u) U.heap ∧ va_D (va_A (cSt a cI M) s.heap.size) (cSt a cI u)) (va_A (cSt a cI M) s.heap.size)) ([.ref (a 0)] : List Value).toArray s 0 0 (va_A (cSt a cI M) s.heap.size)) (F0 m 26 ls []) := by
    intro n_26
    induction n_26 with
    | zero =>
      intro j_26 x1_26 x2_26 M_26 ex2_26 hj0_26 hn_26 ex1_26 hW_26
      exact absurd hn_26 (by omega)
    | succ n_26 ih_26 =>
      intro j_26 x1_26 x2_26 M_26 ex2_26 hj0_26 hn_26 ex1_26 hW_26 hR H locs ls hP hD hS hl
      rw [f_X4_stepFade_p26] at hR
      refine lv_iload_n hx hb dX4_stepFade_26 rfl (lv_at hl 2 rfl) ?_
      refine lv_bipush (v := 16) hx hb dX4_stepFade_27 (by decide) ?_
      refine lv_icmp_ge (tgt := 71) hx hb dX4_stepFade_29 (by decide) (fun c4 => ?_) (fun c4 => ?_)
      · rw [if_pos c4] at hR
        refine lv_aload_n hx hb dX4_stepFade_71 rfl (lv_at hl 0 rfl) ?_
        refine va_get (D := (dC, dI)) (ci := 4) (v := .ref (a 10)) (C := RX4) (T := TX4) (N := 18) hx hb hts hin4 hown hK hP 0 rfl rfl 17 (by decide) (hts (.fieldLink RX4 42 "FeedDesk$State" "fade" "LFeedDesk$Fade;") (List.mem_of_getElem? (i := 1) rfl)) (fun _ h9 => h9) rfl dX4_stepFade_72 ?_
        have hPc : va_P (dC, dI) vwCl (cFd (fun j => a (10 + j)) cI M_26) H := hP.sub [10, 11] rfl
        have hDc : va_D (va_A (cSt a cI M) s.heap.size) (cFd (fun j => a (10 + j)) cI M_26) := hD.sub [10, 11] (by decide) rfl
        have hFc : ∀ q : Nat, va_A [] H.size q → (va_A (cSt a cI M) s.heap.size) q := roF hS hA
        refine va_calli (va_runV (As := []) (rest := []) ⟨hx, hb, hml, hown, hts⟩ (c_X0_isInTheMiddle l dC dI cI cC cS (fun j => a (10 + j)) M_26 H.size) (cwV 0 hts gX4_stepFade_X0_isInTheMiddle rfl rfl rfl (by decide +kernel) ⟨Nat.le_of_ble_eq_true rfl, Nat.le_of_ble_eq_true rfl⟩) (pV (q0 := 0) hK hPc hDc hN rfl rfl) rfl rfl hl.1 rfl (lv_room (Nat.le_of_ble_eq_true rfl)) dX4_stepFade_75 ⟨Nat.le_of_ble_eq_true rfl, Nat.le_of_ble_eq_true rfl⟩) hS (fun q _ h => hFc q h) hFc (fun r_5 u_5 t_5 H6 locs ht hvm hw hB hz1 hk1 hS => ?_)
        obtain ⟨hw, hre7⟩ := hw
        subst hw
        have hP := ro_keep hP hk1
        have hJ_117 : ∀   (M_117 : SR), WF M_117 → R0 = f_X4_stepFade_p117 M_117 → ∀ (H : Heap) (locs : List Loc) (ls : Array Slot), va_P (dC, dI) vwCl (cSt a cI M_117) H → va_D (va_A (cSt a cI M) s.heap.size) (cSt a cI M_117) → va_S (va_A (cSt a cI M) s.heap.size) s.heap H locs → lv_has ls 3 [(0, .ref (a 0))] → W p l e (headSpec wsX4_stepFade rm_X4_stepFade).room s m ([.ref (a 0)] : List Value).toArray below meth c H locs 0 0 (MQ below (va_Qv (fun (u : SR) => u = f_X4_stepFade M ∧ (WF u)) (fun u U => va_P (dC, dI) vwCl (cSt a cI u) U.heap ∧ va_D (va_A (cSt a cI M) s.heap.size) (cSt a cI u)) (va_A (cSt a cI M) s.heap.size)) ([.ref (a 0)] : List Value).toArray s 0 0 (va_A (cSt a cI M) s.heap.size)) (F0 m 117 ls []) := by
          intro M_117 hW_117 hR H locs ls hP hD hS hl
          rw [f_X4_stepFade_p117] at hR
          refine lv_aload_n hx hb dX4_stepFade_117 rfl (lv_at hl 0 rfl) ?_
          refine va_get (D := (dC, dI)) (ci := 4) (v := .ref (a 10)) (C := RX4) (T := TX4) (N := 18) hx hb hts hin4 hown hK hP 0 rfl rfl 17 (by decide) (hts (.fieldLink RX4 42 "FeedDesk$State" "fade" "LFeedDesk$Fade;") (List.mem_of_getElem? (i := 1) rfl)) (fun _ h9 => h9) rfl dX4_stepFade_118 ?_
          refine va_getN (D := (dC, dI)) (ci := 0) (v := .int (M_117 11 1)) (C := RX0) (T := TX0) (N := 5) hx hb hts hin0 hown hK hP 10 rfl rfl 1 (by decide) (va_Nw.use rfl (hN.at 13 rfl)) (fun _ h9 => h9) rfl dX4_stepFade_121 ?_
          refine lv_aload_n hx hb dX4_stepFade_124 rfl (lv_at hl 0 rfl) ?_
          refine va_get (D := (dC, dI)) (ci := 4) (v := .ref (a 10)) (C := RX4) (T := TX4) (N := 18) hx hb hts hin4 hown hK hP 0 rfl rfl 17 (by decide) (hts (.fieldLink RX4 42 "FeedDesk$State" "fade" "LFeedDesk$Fade;") (List.mem_of_getElem? (i := 1) rfl)) (fun _ h9 => h9) rfl dX4_stepFade_125 ?_
          refine va_getN (D := (dC, dI)) (ci := 0) (v := .int (M_117 11 2)) (C := RX0) (T := TX0) (N := 5) hx hb hts hin0 hown hK hP 10 rfl rfl 2 (by decide) (va_Nw.use rfl (hN.at 15 rfl)) (fun _ h9 => h9) rfl dX4_stepFade_128 ?_
          refine lv_icmp_lt (tgt := 141) hx hb dX4_stepFade_131 (by decide) (fun c8 => ?_) (fun c8 => ?_)
          · rw [if_pos c8] at hR
            exact W.vret hx hb hr (fun t ht hWw => ⟨⟨M_117, rfl, ⟨hR.symm.trans eR, hW_117⟩, by rw [ht]; exact hP, hD⟩, hS.F ht⟩) hS.2.2 dX4_stepFade_141
          · rw [if_neg c8] at hR
            refine lv_aload_n hx hb dX4_stepFade_134 rfl (lv_at hl 0 rfl) ?_
            refine va_get (D := (dC, dI)) (ci := 4) (v := .ref (a 10)) (C := RX4) (T := TX4) (N := 18) hx hb hts hin4 hown hK hP 0 rfl rfl 17 (by decide) (hts (.fieldLink RX4 42 "FeedDesk$State" "fade" "LFeedDesk$Fade;") (List.mem_of_getElem? (i := 1) rfl)) (fun _ h9 => h9) rfl dX4_stepFade_135 ?_
            have hPc : va_P (dC, dI) vwCl (cFd (fun j => a (10 + j)) cI M_117) H := hP.sub [10, 11] rfl
            have hDc : va_D (va_A (cSt a cI M) s.heap.size) (cFd (fun j => a (10 + j)) cI M_117) := hD.sub [10, 11] (by decide) rfl
            have hFc : ∀ q : Nat, va_A (cFd (fun j => a (10 + j)) cI M_117) H.size q → (va_A (cSt a cI M) s.heap.size) q := va_free hD hS hA [10, 11] rfl
            refine va_callv (va_runV (As := []) (rest := []) ⟨hx, hb, hml, hown, hts⟩ (c_X0_end l dC dI cI cC cS (fun j => a (10 + j)) M_117 H.size) (cwV 0 hts gX4_stepFade_X0_end rfl rfl rfl (by decide +kernel) ⟨Nat.le_of_ble_eq_true rfl, Nat.le_of_ble_eq_true rfl⟩) (pV (q0 := 0) hK hPc hDc hN rfl rfl) rfl rfl hl.1 rfl (lv_room (Nat.le_of_ble_eq_true rfl)) dX4_stepFade_138 ⟨Nat.le_of_ble_eq_true rfl, Nat.le_of_ble_eq_true rfl⟩) hS (fun q _ h => hFc q h) hFc (fun u_9 t_9 H10 locs ht hvm hw hB hz1 hk1 hS => ?_)
            obtain ⟨hw, hens11⟩ := hw
            obtain ⟨hP1, hD1⟩ := hB
            rw [ht] at hP1
            subst hw
            obtain ⟨hP, hD⟩ := va_join (wc := cFd (fun j => a (10 + j)) cI M_117) (wr := [(a 0, .inr (4, [.ref (a 1), .ref (a 2), .ref (a 3), .int (M_117 10 0), .int (M_117 10 1), .int (M_117 10 2), .ref (a 4), .ref (a 5), .ref (a 6), .ref (a 7), .ref (a 8), .int (M_117 10 3), .int (M_117 10 4), .int (M_117 10 5), .int (M_117 10 6), .ref (a 9), .int (M_117 10 7), .ref (a 10)])), (a 1, .inl (cI, 12, .inl (M_117 0))), (a 2, .inl (cI, 16, .inl (M_117 1))), (a 3, .inl (cI, 12, .inl (M_117 2))), (a 4, .inl (cI, 48, .inl (M_117 3))), (a 5, .inl (cI, 4, .inl (M_117 4))), (a 6, .inl (cI, 4, .inl (M_117 5))), (a 7, .inl (cI, 12, .inl (M_117 6))), (a 8, .inl (cI, 4, .inl (M_117 7))), (a 9, .inl (cI, 102, .inl (M_117 8)))]) (w1 := cFd (fun j => a (10 + j)) cI (f_X0_end M_117)) hP hD [10, 11] [0, 1, 2, 3, 4, 5, 6, 7, 8, 9] rfl rfl (by decide) (by decide) hk1 hFc hP1 hD1
            have hP : va_P (dC, dI) vwCl (cSt a cI (mFd M_117 (f_X0_end M_117))) H10 := hP.sub [0, 1, 2, 3, 4, 5, 6, 7, 8, 9, 10, 11] rfl
            have hD : va_D (va_A (cSt a cI M) s.heap.size) (cSt a cI (mFd M_117 (f_X0_end M_117))) := hD.sub [0, 1, 2, 3, 4, 5, 6, 7, 8, 9, 10, 11] (by decide) rfl
            obtain ⟨Mn12, eMn12⟩ : ∃ z : SR, z = mFd M_117 (f_X0_end M_117) := ⟨_, rfl⟩
            rw [sLet_eq, ← eMn12] at hR
            rw [← eMn12] at hP hD
            have hW13 : WF Mn12 := (by rw [eMn12]; exact wf_fd hW_117 hens11)
            exact W.vret hx hb hr (fun t ht hWw => ⟨⟨Mn12, rfl, ⟨hR.symm.trans eR, hW13⟩, by rw [ht]; exact hP, hD⟩, hS.F ht⟩) hS.2.2 dX4_stepFade_141
        refine lv_if_eq (tgt := 117) hx hb dX4_stepFade_78 (by decide) (fun c14 => ?_) (fun c14 => ?_)
        · rw [if_pos c14] at hR
          exact hJ_117 M_26 hW_26 hR _ _ _ hP hD hS (lv_sub hl [0] rfl)
        · rw [if_neg c14] at hR
          refine lv_aload_n hx hb dX4_stepFade_81 rfl (lv_at hl 0 rfl) ?_
          refine lv_aload_n hx hb dX4_stepFade_82 rfl (lv_at hl 0 rfl) ?_
          refine va_get (D := (dC, dI)) (ci := 4) (v := .int (M_26 10 0)) (C := RX4) (T := TX4) (N := 18) hx hb hts hin4 hown hK hP 0 rfl rfl 3 (by decide) (hts (.fieldLink RX4 52 "FeedDesk$State" "muted" "I") (List.mem_of_getElem? (i := 4) rfl)) (fun _ h9 => h9) rfl dX4_stepFade_83 ?_
          refine lv_aload_n hx hb dX4_stepFade_86 rfl (lv_at hl 0 rfl) ?_
          refine va_get (D := (dC, dI)) (ci := 4) (v := .ref (a 10)) (C := RX4) (T := TX4) (N := 18) hx hb hts hin4 hown hK hP 0 rfl rfl 17 (by decide) (hts (.fieldLink RX4 42 "FeedDesk$State" "fade" "LFeedDesk$Fade;") (List.mem_of_getElem? (i := 1) rfl)) (fun _ h9 => h9) rfl dX4_stepFade_87 ?_
          refine va_getN (D := (dC, dI)) (ci := 0) (v := .int (M_26 11 3)) (C := RX0) (T := TX0) (N := 5) hx hb hts hin0 hown hK hP 10 rfl rfl 3 (by decide) (va_Nw.use rfl (hN.at 16 rfl)) (fun _ h9 => h9) rfl dX4_stepFade_90 ?_
          refine lv_iand hx hb dX4_stepFade_93 ?_
          refine lv_aload_n hx hb dX4_stepFade_94 rfl (lv_at hl 0 rfl) ?_
          refine va_get (D := (dC, dI)) (ci := 4) (v := .ref (a 9)) (C := RX4) (T := TX4) (N := 18) hx hb hts hin4 hown hK hP 0 rfl rfl 15 (by decide) (hts (.fieldLink RX4 36 "FeedDesk$State" "scenes" "[I") (List.mem_of_getElem? (i := 3) rfl)) (fun _ h9 => h9) rfl dX4_stepFade_95 ?_
          refine lv_iload_n hx hb dX4_stepFade_98 rfl (lv_at hl 1 rfl) ?_
          refine lv_bipush (v := 16) hx hb dX4_stepFade_99 (by decide) ?_
          refine lv_iadd hx hb dX4_stepFade_101 ?_
          refine va_iald (f := M_26 8) hx hb hK hP 9 0 rfl rfl (by rw [ex1_26]; exact vp_of_B (ix_7 (iT * 17) hBT)) dX4_stepFade_102 ?_
          refine lv_aload_n hx hb dX4_stepFade_103 rfl (lv_at hl 0 rfl) ?_
          refine va_get (D := (dC, dI)) (ci := 4) (v := .ref (a 10)) (C := RX4) (T := TX4) (N := 18) hx hb hts hin4 hown hK hP 0 rfl rfl 17 (by decide) (hts (.fieldLink RX4 42 "FeedDesk$State" "fade" "LFeedDesk$Fade;") (List.mem_of_getElem? (i := 1) rfl)) (fun _ h9 => h9) rfl dX4_stepFade_104 ?_
          refine va_getN (D := (dC, dI)) (ci := 0) (v := .int (M_26 11 3)) (C := RX0) (T := TX0) (N := 5) hx hb hts hin0 hown hK hP 10 rfl rfl 3 (by decide) (va_Nw.use rfl (hN.at 16 rfl)) (fun _ h9 => h9) rfl dX4_stepFade_107 ?_
          refine lv_iconst (v := (-1)) hx hb dX4_stepFade_110 (by decide) ?_
          refine lv_ixor hx hb dX4_stepFade_111 ?_
          refine lv_iand hx hb dX4_stepFade_112 ?_
          refine lv_ior hx hb dX4_stepFade_113 ?_
          refine va_put (D := (dC, dI)) (ci := 4) (v := .int (((M_26 10 0) &&& (M_26 11 3)) ||| ((M_26 8 (x1_26 + 16).toNatClampNeg) &&& ((M_26 11 3) ^^^ (-1))))) (ty := .int) (C := RX4) (T := TX4) (N := 18) hx hb hts hin4 tyX4 tyX4_ok nmX4 hown hK hP hD hS 0 rfl rfl 3 (by decide) (hts (.fieldLink RX4 52 "FeedDesk$State" "muted" "I") (List.mem_of_getElem? (i := 4) rfl)) (fun _ h9 => h9) rfl (by decide +kernel) rfl rfl (Nat.le_of_ble_eq_true rfl) dX4_stepFade_114 (fun H15 locs hP hD hS => ?_)
          have hP : va_P (dC, dI) vwCl (cSt a cI (sU M_26 10 0 (((M_26 10 0) &&& (M_26 11 3)) ||| ((M_26 8 (x1_26 + 16).toNatClampNeg) &&& ((M_26 11 3) ^^^ (-1)))))) H15 := hP
          have hD : va_D (va_A (cSt a cI M) s.heap.size) (cSt a cI (sU M_26 10 0 (((M_26 10 0) &&& (M_26 11 3)) ||| ((M_26 8 (x1_26 + 16).toNatClampNeg) &&& ((M_26 11 3) ^^^ (-1)))))) := hD
          obtain ⟨Mn16, eMn16⟩ : ∃ z : SR, z = sU M_26 10 0 (((M_26 10 0) &&& (M_26 11 3)) ||| ((M_26 8 (x1_26 + 16).toNatClampNeg) &&& ((M_26 11 3) ^^^ (-1)))) := ⟨_, rfl⟩
          rw [sLet_eq, ← eMn16] at hR
          rw [← eMn16] at hP hD
          have hW17 : WF Mn16 := (by rw [eMn16]; exact hW_26)
          exact hJ_117 Mn16 hW17 hR _ _ _ hP hD hS (lv_sub hl [0] rfl)
      · rw [if_neg c4] at hR
        have hj_26 : j_26 < 16 := lp_ge ex2_26 (by decide +kernel) (by omega) (by omega) c4
        refine lv_aload_n hx hb dX4_stepFade_32 rfl (lv_at hl 0 rfl) ?_
        refine va_get (D := (dC, dI)) (ci := 4) (v := .ref (a 10)) (C := RX4) (T := TX4) (N := 18) hx hb hts hin4 hown hK hP 0 rfl rfl 17 (by decide) (hts (.fieldLink RX4 42 "FeedDesk$State" "fade" "LFeedDesk$Fade;") (List.mem_of_getElem? (i := 1) rfl)) (fun _ h9 => h9) rfl dX4_stepFade_33 ?_
        refine lv_iload_n hx hb dX4_stepFade_36 rfl (lv_at hl 2 rfl) ?_
        have hPc : va_P (dC, dI) vwCl (cFd (fun j => a (10 + j)) cI M_26) H := hP.sub [10, 11] rfl
        have hDc : va_D (va_A (cSt a cI M) s.heap.size) (cFd (fun j => a (10 + j)) cI M_26) := hD.sub [10, 11] (by decide) rfl
        have hFc : ∀ q : Nat, va_A [] H.size q → (va_A (cSt a cI M) s.heap.size) q := roF hS hA
        refine va_calli (va_runV (As := [.int x2_26]) (rest := []) ⟨hx, hb, hml, hown, hts⟩ (c_X0_isTouched l dC dI cI cC cS (fun j => a (10 + j)) M_26 H.size x2_26) (cwV 1 hts gX4_stepFade_X0_isTouched rfl rfl rfl (by decide +kernel) ⟨Nat.le_of_ble_eq_true rfl, Nat.le_of_ble_eq_true rfl⟩) (pV (q0 := 0) hK hPc hDc hN rfl rfl) rfl rfl hl.1 rfl (lv_room (Nat.le_of_ble_eq_true rfl)) dX4_stepFade_37 ⟨Nat.le_of_ble_eq_true rfl, Nat.le_of_ble_eq_true rfl⟩) hS (fun q _ h => hFc q h) hFc (fun r_18 u_18 t_18 H19 locs ht hvm hw hB hz1 hk1 hS => ?_)
        obtain ⟨hw, hre20⟩ := hw
        subst hw
        have hP := ro_keep hP hk1
        refine lv_if_ne (tgt := 65) hx hb dX4_stepFade_40 (by decide) (fun c21 => ?_) (fun c21 => ?_)
        · rw [if_neg c21] at hR
          refine lv_iinc (v := x2_26 + 1) (lv' := [(2, .int (x2_26 + 1)), (0, .ref (a 0)), (1, .int x1_26)]) hx hb dX4_stepFade_65 hl (k := 2) rfl rfl (by decide) rfl (fun ls hl => ?_)
          refine lv_goto (tgt := 26) hx hb dX4_stepFade_68 (by decide) ?_
          exact ih_26 (j_26 + 1) x1_26 (x2_26 + 1) M_26 (by rw [ex2_26, nI_1]) (by omega) (by omega) ex1_26 hW_26 hR _ _ _ hP hD hS (lv_sub hl [1, 2, 0] rfl)
        · rw [if_pos c21] at hR
          refine lv_aload_n hx hb dX4_stepFade_43 rfl (lv_at hl 0 rfl) ?_
          refine va_get (D := (dC, dI)) (ci := 4) (v := .ref (a 2)) (C := RX4) (T := TX4) (N := 18) hx hb hts hin4 hown hK hP 0 rfl rfl 1 (by decide) (hts (.fieldLink RX4 15 "FeedDesk$State" "sliders" "[I") (List.mem_of_getElem? (i := 2) rfl)) (fun _ h9 => h9) rfl dX4_stepFade_44 ?_
          refine lv_iload_n hx hb dX4_stepFade_47 rfl (lv_at hl 2 rfl) ?_
          refine lv_aload_n hx hb dX4_stepFade_48 rfl (lv_at hl 0 rfl) ?_
          refine va_get (D := (dC, dI)) (ci := 4) (v := .ref (a 10)) (C := RX4) (T := TX4) (N := 18) hx hb hts hin4 hown hK hP 0 rfl rfl 17 (by decide) (hts (.fieldLink RX4 42 "FeedDesk$State" "fade" "LFeedDesk$Fade;") (List.mem_of_getElem? (i := 1) rfl)) (fun _ h9 => h9) rfl dX4_stepFade_49 ?_
          refine lv_iload_n hx hb dX4_stepFade_52 rfl (lv_at hl 2 rfl) ?_
          refine lv_aload_n hx hb dX4_stepFade_53 rfl (lv_at hl 0 rfl) ?_
          refine va_get (D := (dC, dI)) (ci := 4) (v := .ref (a 9)) (C := RX4) (T := TX4) (N := 18) hx hb hts hin4 hown hK hP 0 rfl rfl 15 (by decide) (hts (.fieldLink RX4 36 "FeedDesk$State" "scenes" "[I") (List.mem_of_getElem? (i := 3) rfl)) (fun _ h9 => h9) rfl dX4_stepFade_54 ?_
          refine lv_iload_n hx hb dX4_stepFade_57 rfl (lv_at hl 1 rfl) ?_
          refine lv_iload_n hx hb dX4_stepFade_58 rfl (lv_at hl 2 rfl) ?_
          refine lv_iadd hx hb dX4_stepFade_59 ?_
          refine va_iald (f := M_26 8) hx hb hK hP 9 0 rfl rfl (by rw [ex1_26, ex2_26]; exact vp_of_B (ix_8 (iT * 17) hBT j_26 hj_26)) dX4_stepFade_60 ?_
          have hPc : va_P (dC, dI) vwCl (cFd (fun j => a (10 + j)) cI M_26) H19 := hP.sub [10, 11] rfl
          have hDc : va_D (va_A (cSt a cI M) s.heap.size) (cFd (fun j => a (10 + j)) cI M_26) := hD.sub [10, 11] (by decide) rfl
          have hFc : ∀ q : Nat, va_A [] H19.size q → (va_A (cSt a cI M) s.heap.size) q := roF hS hA
          refine va_calli (va_runV (As := [.int x2_26, .int (M_26 8 (x1_26 + x2_26).toNatClampNeg)]) (rest := [.int x2_26, .ref (a 2)]) ⟨hx, hb, hml, hown, hts⟩ (c_X0_positionOf l dC dI cI cC cS (fun j => a (10 + j)) M_26 H19.size x2_26 (M_26 8 (x1_26 + x2_26).toNatClampNeg) (by rw [ex2_26]; exact vp_of_B (ix_4 j_26 hj_26))) (cwV 2 hts gX4_stepFade_X0_positionOf rfl rfl rfl (by decide +kernel) ⟨Nat.le_of_ble_eq_true rfl, Nat.le_of_ble_eq_true rfl⟩) (pV (q0 := 0) hK hPc hDc hN rfl rfl) rfl rfl hl.1 rfl (lv_room (Nat.le_of_ble_eq_true rfl)) dX4_stepFade_61 ⟨Nat.le_of_ble_eq_true rfl, Nat.le_of_ble_eq_true rfl⟩) hS (fun q _ h => hFc q h) hFc (fun r_22 u_22 t_22 H23 locs ht hvm hw hB hz1 hk1 hS => ?_)
          subst hw
          have hP := ro_keep hP hk1
          refine va_iast (f := M_26 1) hx hb hK hP hD hS 2 0 rfl rfl (by rw [ex2_26]; exact vp_of_B (ix_4 j_26 hj_26)) dX4_stepFade_64 (fun H24 locs hP hD hS => ?_)
          have hP : va_P (dC, dI) vwCl (cSt a cI (sU M_26 1 x2_26.toNatClampNeg (f_X0_positionOf M_26 x2_26 (M_26 8 (x1_26 + x2_26).toNatClampNeg)))) H24 := hP
          have hD : va_D (va_A (cSt a cI M) s.heap.size) (cSt a cI (sU M_26 1 x2_26.toNatClampNeg (f_X0_positionOf M_26 x2_26 (M_26 8 (x1_26 + x2_26).toNatClampNeg)))) := hD
          obtain ⟨Mn25, eMn25⟩ : ∃ z : SR, z = sU M_26 1 x2_26.toNatClampNeg (f_X0_positionOf M_26 x2_26 (M_26 8 (x1_26 + x2_26).toNatClampNeg)) := ⟨_, rfl⟩
          rw [sLet_eq, ← eMn25] at hR
          rw [← eMn25] at hP hD
          have hW26 : WF Mn25 := (by rw [eMn25]; exact hW_26)
          refine lv_iinc (v := x2_26 + 1) (lv' := [(2, .int (x2_26 + 1)), (0, .ref (a 0)), (1, .int x1_26)]) hx hb dX4_stepFade_65 hl (k := 2) rfl rfl (by decide) rfl (fun ls hl => ?_)
          refine lv_goto (tgt := 26) hx hb dX4_stepFade_68 (by decide) ?_
          exact ih_26 (j_26 + 1) x1_26 (x2_26 + 1) Mn25 (by rw [ex2_26, nI_1]) (by omega) (by omega) ex1_26 hW26 hR _ _ _ hP hD hS (lv_sub hl [1, 2, 0] rfl)
  exact hL_26 17 0 ((M 11 0) * 17) 0 Mn2 (by decide +kernel) (by decide) (by decide) eB hW3 hR _ _ _ hP hD hS (lv_sub hl [2, 1, 0] rfl)
abbrev rm_X4_goOn : Room := { frames := 4, cells := 0, slots := 0, locals := 88 }
def f_X4_goOn_p21 (p1 : Int32) (kb2 : Int32 → SR → SR) (x2_21 : Int32)  (M_21 : SR) : SR := sLet ((f_X4_takeSignals M_21)) (fun Mn8 : SR => sLet ((f_X4_mix Mn8)) (fun Mn13 : SR => sLet (sU Mn13 10 3 ((Mn13 10 3) + 1)) (fun Mn16 : SR => kb2 (x2_21 + 1) Mn16)))
def f_X4_goOn_p2 (p1 : Int32)  : Nat → Int32 → SR → SR
  | 0, _, M_2 => M_2
  | n_2 + 1, x2_2, M_2 => (if p1 ≤ x2_2 then M_2 else (if (f_X0_isGoingOn M_2) = 0 then f_X4_goOn_p21 p1 (f_X4_goOn_p2 p1 n_2) x2_2 M_2 else sLet ((f_X4_stepFade M_2)) (fun Mn22 : SR => f_X4_goOn_p21 p1 (f_X4_goOn_p2 p1 n_2) x2_2 Mn22)))
def f_X4_goOn (M : SR) (p1 : Int32) : SR := f_X4_goOn_p2 p1 (p1.toNatClampNeg + 1) 0 M
set_option maxHeartbeats 4000000 in
set_option maxRecDepth 100000 in
theorem c_X4_goOn (l : Launch) (dC : Nat → ClassId) (dI : Nat → Nat → Nat) (cI cC cS : ClassId) (a : Nat → Nat) (M : SR) (sz : Nat) (p1 : Int32) (h1 : vp_in p1 101) (hW : WF M) : Met l yX4_goOn wsX4_goOn rm_X4_goOn (PcG (dC, dI) (tyL cI cC cS) (cSt a cI M) sz [.ref (a 0), .int p1]) (va_Qv (fun (u : SR) => u = f_X4_goOn M p1 ∧ (WF u)) (fun u U => va_P (dC, dI) vwCl (cSt a cI u) U.heap ∧ va_D (va_A (cSt a cI M) sz) (cSt a cI u)) (va_A (cSt a cI M) sz)) 0 0 (va_A (cSt a cI M) sz) := by
  refine Met.ofW (cc := cX4_goOn) (maxL := 3) (ret := none) (by decide) rfl ?_
  intro p e s m args below meth c s₁ B hml hv
  obtain ⟨rfl, hsz, hP, hK, hD0, hN⟩ := hv
  have hx := B.exec
  have hb := B.bytes
  have hr := B.returns
  have hts := atoms_spec (ws := wsX4_goOn) B.pre
  have hown : s.vm.findClass RX4 = some m.cls := findClass_of_methodNamed B.named
  have hlocks := B.notSynchronized
  subst hsz
  have hD := hD0.self (sz := s.heap.size)
  have hA : ∀ q : Nat, s.heap.size ≤ q → (va_A (cSt a cI M) s.heap.size) q := fun q h => Or.inr h
  have hS : va_S (va_A (cSt a cI M) s.heap.size) s.heap s.heap [] := va_S.rf
  have hin4 : ∀ w ∈ wsX40, w ∈ wsX4_goOn := fun _ h => List.mem_cons_of_mem _ (List.mem_append_left _ (List.mem_append_right _ h))
  obtain ⟨ip1, hip1, ep1⟩ := vp_in_of h1 (by decide)
  have hl := lv_entry [.ref (a 0), .int p1] (n := 3) (Nat.le_of_ble_eq_true rfl)
  rw [lg_entry_eq]
  generalize (lg_sl [.ref (a 0), .int p1] ++ List.replicate (3 - (lg_sl [.ref (a 0), .int p1]).length) Slot.unset).toArray = ls at hl ⊢
  have hl : lv_has ls 3 [(0, .ref (a 0)), (1, .int p1)] := hl
  obtain ⟨R0, eR⟩ : ∃ z, z = f_X4_goOn M p1 := ⟨_, rfl⟩
  have hR := eR
  rw [f_X4_goOn] at hR
  refine lv_iconst (v := 0) hx hb dX4_goOn_0 (by decide) ?_
  refine lv_istore_n (lv' := [(2, .int 0), (0, .ref (a 0)), (1, .int p1)]) hx hb dX4_goOn_1 rfl hl (by decide) rfl (fun ls hl => ?_)
  have hL_2 : ∀ n_2 : Nat, ∀ (j_2 : Nat), ∀ (x2_2 : Int32) (M_2 : SR), x2_2 = nI j_2 → j_2 ≤ ip1 → ip1 < j_2 + n_2 → WF M_2 → R0 = f_X4_goOn_p2 p1 n_2 x2_2 M_2 → ∀ (H : Heap) (locs : List Loc) (ls : Array Slot), va_P (dC, dI) vwCl (cSt a cI M_2) H → va_D (va_A (cSt a cI M) s.heap.size) (cSt a cI M_2) → va_S (va_A (cSt a cI M) s.heap.size) s.heap H locs → lv_has ls 3 [(0, .ref (a 0)), (1, .int p1), (2, .int x2_2)] → W p l e (headSpec wsX4_goOn rm_X4_goOn).room s m ([.ref (a 0), .int p1] : List Value).toArray below meth c H locs 0 0 (MQ below (va_Qv (fun (u : SR) => u = f_X4_goOn M p1 ∧ (WF u)) (fun u U => va_P (dC, dI) vwCl (cSt a cI u) U.heap ∧ va_D (va_A (cSt a cI M) s.heap.size) (cSt a cI u)) (va_A (cSt a cI M) s.heap.size)) ([.ref (a 0), .int p1] : List Value).toArray s 0 0 (va_A (cSt a cI M) s.heap.size)) (F0 m 2 ls []) := by
    intro n_2
    induction n_2 with
    | zero =>
      intro j_2 x2_2 M_2 ex2_2 hj0_2 hn_2 hW_2
      exact absurd hn_2 (by omega)
    | succ n_2 ih_2 =>
      intro j_2 x2_2 M_2 ex2_2 hj0_2 hn_2 hW_2 hR H locs ls hP hD hS hl
      rw [f_X4_goOn_p2] at hR
      refine lv_iload_n hx hb dX4_goOn_2 rfl (lv_at hl 2 rfl) ?_
      refine lv_iload_n hx hb dX4_goOn_3 rfl (lv_at hl 1 rfl) ?_
      refine lv_icmp_ge (tgt := 45) hx hb dX4_goOn_4 (by decide) (fun c1 => ?_) (fun c1 => ?_)
      · rw [if_pos c1] at hR
        exact W.vret hx hb hr (fun t ht hWw => ⟨⟨M_2, rfl, ⟨hR.symm.trans eR, hW_2⟩, by rw [ht]; exact hP, hD⟩, hS.F ht⟩) hS.2.2 dX4_goOn_45
      · rw [if_neg c1] at hR
        have hj_2 : j_2 < ip1 := lp_ge ex2_2 ep1 (by omega) (by omega) c1
        refine lv_aload_n hx hb dX4_goOn_7 rfl (lv_at hl 0 rfl) ?_
        refine va_get (D := (dC, dI)) (ci := 4) (v := .ref (a 10)) (C := RX4) (T := TX4) (N := 18) hx hb hts hin4 hown hK hP 0 rfl rfl 17 (by decide) (hts (.fieldLink RX4 42 "FeedDesk$State" "fade" "LFeedDesk$Fade;") (List.mem_of_getElem? (i := 1) rfl)) (fun _ h9 => h9) rfl dX4_goOn_8 ?_
        have hPc : va_P (dC, dI) vwCl (cFd (fun j => a (10 + j)) cI M_2) H := hP.sub [10, 11] rfl
        have hDc : va_D (va_A (cSt a cI M) s.heap.size) (cFd (fun j => a (10 + j)) cI M_2) := hD.sub [10, 11] (by decide) rfl
        have hFc : ∀ q : Nat, va_A [] H.size q → (va_A (cSt a cI M) s.heap.size) q := roF hS hA
        refine va_calli (va_runV (As := []) (rest := []) ⟨hx, hb, hml, hown, hts⟩ (c_X0_isGoingOn l dC dI cI cC cS (fun j => a (10 + j)) M_2 H.size) (cwV 0 hts gX4_goOn_X0_isGoingOn rfl rfl rfl (by decide +kernel) ⟨Nat.le_of_ble_eq_true rfl, Nat.le_of_ble_eq_true rfl⟩) (pV (q0 := 0) hK hPc hDc hN rfl rfl) rfl rfl hl.1 rfl (lv_room (Nat.le_of_ble_eq_true rfl)) dX4_goOn_11 ⟨Nat.le_of_ble_eq_true rfl, Nat.le_of_ble_eq_true rfl⟩) hS (fun q _ h => hFc q h) hFc (fun r_2 u_2 t_2 H3 locs ht hvm hw hB hz1 hk1 hS => ?_)
        obtain ⟨hw, hre4⟩ := hw
        subst hw
        have hP := ro_keep hP hk1
        have hJ_21 : ∀ (x2_21 : Int32)  (M_21 : SR), x2_21 = nI j_2 → WF M_21 → R0 = f_X4_goOn_p21 p1 (f_X4_goOn_p2 p1 n_2) x2_21 M_21 → ∀ (H : Heap) (locs : List Loc) (ls : Array Slot), va_P (dC, dI) vwCl (cSt a cI M_21) H → va_D (va_A (cSt a cI M) s.heap.size) (cSt a cI M_21) → va_S (va_A (cSt a cI M) s.heap.size) s.heap H locs → lv_has ls 3 [(0, .ref (a 0)), (1, .int p1), (2, .int x2_21)] → W p l e (headSpec wsX4_goOn rm_X4_goOn).room s m ([.ref (a 0), .int p1] : List Value).toArray below meth c H locs 0 0 (MQ below (va_Qv (fun (u : SR) => u = f_X4_goOn M p1 ∧ (WF u)) (fun u U => va_P (dC, dI) vwCl (cSt a cI u) U.heap ∧ va_D (va_A (cSt a cI M) s.heap.size) (cSt a cI u)) (va_A (cSt a cI M) s.heap.size)) ([.ref (a 0), .int p1] : List Value).toArray s 0 0 (va_A (cSt a cI M) s.heap.size)) (F0 m 21 ls []) := by
          intro x2_21 M_21 ex2_21 hW_21 hR H locs ls hP hD hS hl
          rw [f_X4_goOn_p21] at hR
          refine lv_aload_n hx hb dX4_goOn_21 rfl (lv_at hl 0 rfl) ?_
          have hPc : va_P (dC, dI) vwCl (cSt a cI M_21) H := hP.sub [0, 1, 2, 3, 4, 5, 6, 7, 8, 9, 10, 11] rfl
          have hDc : va_D (va_A (cSt a cI M) s.heap.size) (cSt a cI M_21) := hD.sub [0, 1, 2, 3, 4, 5, 6, 7, 8, 9, 10, 11] (by decide) rfl
          have hFc : ∀ q : Nat, va_A (cSt a cI M_21) H.size q → (va_A (cSt a cI M) s.heap.size) q := va_free hD hS hA [0, 1, 2, 3, 4, 5, 6, 7, 8, 9, 10, 11] rfl
          refine va_callv (va_runV (As := []) (rest := []) ⟨hx, hb, hml, hown, hts⟩ (c_X4_takeSignals l dC dI cI cC cS a M_21 H.size hW_21) (cwV 0 hts gX4_goOn_X4_takeSignals rfl rfl rfl (by decide +kernel) ⟨Nat.le_of_ble_eq_true rfl, Nat.le_of_ble_eq_true rfl⟩) (pV (q0 := 0) hK hPc hDc hN rfl rfl) rfl rfl hl.1 rfl (lv_room (Nat.le_of_ble_eq_true rfl)) dX4_goOn_22 ⟨Nat.le_of_ble_eq_true rfl, Nat.le_of_ble_eq_true rfl⟩) hS (fun q _ h => hFc q h) hFc (fun u_5 t_5 H6 locs ht hvm hw hB hz1 hk1 hS => ?_)
          obtain ⟨hw, hens7⟩ := hw
          obtain ⟨hP1, hD1⟩ := hB
          rw [ht] at hP1
          subst hw
          obtain ⟨hP, hD⟩ := va_join (wc := cSt a cI M_21) (wr := []) (w1 := cSt a cI (f_X4_takeSignals M_21)) hP hD [0, 1, 2, 3, 4, 5, 6, 7, 8, 9, 10, 11] [] rfl rfl (by decide) (by decide) hk1 hFc hP1 hD1
          have hP : va_P (dC, dI) vwCl (cSt a cI (f_X4_takeSignals M_21)) H6 := hP.sub [0, 1, 2, 3, 4, 5, 6, 7, 8, 9, 10, 11] rfl
          have hD : va_D (va_A (cSt a cI M) s.heap.size) (cSt a cI (f_X4_takeSignals M_21)) := hD.sub [0, 1, 2, 3, 4, 5, 6, 7, 8, 9, 10, 11] (by decide) rfl
          obtain ⟨Mn8, eMn8⟩ : ∃ z : SR, z = (f_X4_takeSignals M_21) := ⟨_, rfl⟩
          rw [sLet_eq, ← eMn8] at hR
          rw [← eMn8] at hP hD
          have hW9 : WF Mn8 := by rw [eMn8]; exact hens7
          refine lv_aload_n hx hb dX4_goOn_25 rfl (lv_at hl 0 rfl) ?_
          have hPc : va_P (dC, dI) vwCl (cSt a cI Mn8) H6 := hP.sub [0, 1, 2, 3, 4, 5, 6, 7, 8, 9, 10, 11] rfl
          have hDc : va_D (va_A (cSt a cI M) s.heap.size) (cSt a cI Mn8) := hD.sub [0, 1, 2, 3, 4, 5, 6, 7, 8, 9, 10, 11] (by decide) rfl
          have hFc : ∀ q : Nat, va_A (cSt a cI Mn8) H6.size q → (va_A (cSt a cI M) s.heap.size) q := va_free hD hS hA [0, 1, 2, 3, 4, 5, 6, 7, 8, 9, 10, 11] rfl
          refine va_callv (va_runV (As := []) (rest := []) ⟨hx, hb, hml, hown, hts⟩ (c_X4_mix l dC dI cI cC cS a Mn8 H6.size hW9) (cwV 0 hts gX4_goOn_X4_mix rfl rfl rfl (by decide +kernel) ⟨Nat.le_of_ble_eq_true rfl, Nat.le_of_ble_eq_true rfl⟩) (pV (q0 := 0) hK hPc hDc hN rfl rfl) rfl rfl hl.1 rfl (lv_room (Nat.le_of_ble_eq_true rfl)) dX4_goOn_26 ⟨Nat.le_of_ble_eq_true rfl, Nat.le_of_ble_eq_true rfl⟩) hS (fun q _ h => hFc q h) hFc (fun u_10 t_10 H11 locs ht hvm hw hB hz1 hk1 hS => ?_)
          obtain ⟨hw, hens12⟩ := hw
          obtain ⟨hP1, hD1⟩ := hB
          rw [ht] at hP1
          subst hw
          obtain ⟨hP, hD⟩ := va_join (wc := cSt a cI Mn8) (wr := []) (w1 := cSt a cI (f_X4_mix Mn8)) hP hD [0, 1, 2, 3, 4, 5, 6, 7, 8, 9, 10, 11] [] rfl rfl (by decide) (by decide) hk1 hFc hP1 hD1
          have hP : va_P (dC, dI) vwCl (cSt a cI (f_X4_mix Mn8)) H11 := hP.sub [0, 1, 2, 3, 4, 5, 6, 7, 8, 9, 10, 11] rfl
          have hD : va_D (va_A (cSt a cI M) s.heap.size) (cSt a cI (f_X4_mix Mn8)) := hD.sub [0, 1, 2, 3, 4, 5, 6, 7, 8, 9, 10, 11] (by decide) rfl
          obtain ⟨Mn13, eMn13⟩ : ∃ z : SR, z = (f_X4_mix Mn8) := ⟨_, rfl⟩
          rw [sLet_eq, ← eMn13] at hR
          rw [← eMn13] at hP hD
          have hW14 : WF Mn13 := by rw [eMn13]; exact hens12
          refine lv_aload_n hx hb dX4_goOn_29 rfl (lv_at hl 0 rfl) ?_
          refine lv_dup hx hb dX4_goOn_30 rfl ?_
          refine va_get (D := (dC, dI)) (ci := 4) (v := .int (Mn13 10 3)) (C := RX4) (T := TX4) (N := 18) hx hb hts hin4 hown hK hP 0 rfl rfl 11 (by decide) (hts (.fieldLink RX4 62 "FeedDesk$State" "ticks" "I") (List.mem_of_getElem? (i := 2) rfl)) (fun _ h9 => h9) rfl dX4_goOn_31 ?_
          refine lv_iconst (v := 1) hx hb dX4_goOn_34 (by decide) ?_
          refine lv_iadd hx hb dX4_goOn_35 ?_
          refine va_put (D := (dC, dI)) (ci := 4) (v := .int ((Mn13 10 3) + 1)) (ty := .int) (C := RX4) (T := TX4) (N := 18) hx hb hts hin4 tyX4 tyX4_ok nmX4 hown hK hP hD hS 0 rfl rfl 11 (by decide) (hts (.fieldLink RX4 62 "FeedDesk$State" "ticks" "I") (List.mem_of_getElem? (i := 2) rfl)) (fun _ h9 => h9) rfl (by decide +kernel) rfl rfl (Nat.le_of_ble_eq_true rfl) dX4_goOn_36 (fun H15 locs hP hD hS => ?_)
          have hP : va_P (dC, dI) vwCl (cSt a cI (sU Mn13 10 3 ((Mn13 10 3) + 1))) H15 := hP
          have hD : va_D (va_A (cSt a cI M) s.heap.size) (cSt a cI (sU Mn13 10 3 ((Mn13 10 3) + 1))) := hD
          obtain ⟨Mn16, eMn16⟩ : ∃ z : SR, z = sU Mn13 10 3 ((Mn13 10 3) + 1) := ⟨_, rfl⟩
          rw [sLet_eq, ← eMn16] at hR
          rw [← eMn16] at hP hD
          have hW17 : WF Mn16 := (by rw [eMn16]; exact hW14)
          refine lv_iinc (v := x2_21 + 1) (lv' := [(2, .int (x2_21 + 1)), (0, .ref (a 0)), (1, .int p1)]) hx hb dX4_goOn_39 hl (k := 2) rfl rfl (by decide) rfl (fun ls hl => ?_)
          refine lv_goto (tgt := 2) hx hb dX4_goOn_42 (by decide) ?_
          exact ih_2 (j_2 + 1) (x2_21 + 1) Mn16 (by rw [ex2_21, nI_1]) (by omega) (by omega) hW17 hR _ _ _ hP hD hS (lv_sub hl [1, 2, 0] rfl)
        refine lv_if_eq (tgt := 21) hx hb dX4_goOn_14 (by decide) (fun c18 => ?_) (fun c18 => ?_)
        · rw [if_pos c18] at hR
          exact hJ_21 x2_2 M_2 ex2_2 hW_2 hR _ _ _ hP hD hS (lv_sub hl [0, 1, 2] rfl)
        · rw [if_neg c18] at hR
          refine lv_aload_n hx hb dX4_goOn_17 rfl (lv_at hl 0 rfl) ?_
          have hPc : va_P (dC, dI) vwCl (cSt a cI M_2) H3 := hP.sub [0, 1, 2, 3, 4, 5, 6, 7, 8, 9, 10, 11] rfl
          have hDc : va_D (va_A (cSt a cI M) s.heap.size) (cSt a cI M_2) := hD.sub [0, 1, 2, 3, 4, 5, 6, 7, 8, 9, 10, 11] (by decide) rfl
          have hFc : ∀ q : Nat, va_A (cSt a cI M_2) H3.size q → (va_A (cSt a cI M) s.heap.size) q := va_free hD hS hA [0, 1, 2, 3, 4, 5, 6, 7, 8, 9, 10, 11] rfl
          refine va_callv (va_runV (As := []) (rest := []) ⟨hx, hb, hml, hown, hts⟩ (c_X4_stepFade l dC dI cI cC cS a M_2 H3.size hW_2) (cwV 0 hts gX4_goOn_X4_stepFade rfl rfl rfl (by decide +kernel) ⟨Nat.le_of_ble_eq_true rfl, Nat.le_of_ble_eq_true rfl⟩) (pV (q0 := 0) hK hPc hDc hN rfl rfl) rfl rfl hl.1 rfl (lv_room (Nat.le_of_ble_eq_true rfl)) dX4_goOn_18 ⟨Nat.le_of_ble_eq_true rfl, Nat.le_of_ble_eq_true rfl⟩) hS (fun q _ h => hFc q h) hFc (fun u_19 t_19 H20 locs ht hvm hw hB hz1 hk1 hS => ?_)
          obtain ⟨hw, hens21⟩ := hw
          obtain ⟨hP1, hD1⟩ := hB
          rw [ht] at hP1
          subst hw
          obtain ⟨hP, hD⟩ := va_join (wc := cSt a cI M_2) (wr := []) (w1 := cSt a cI (f_X4_stepFade M_2)) hP hD [0, 1, 2, 3, 4, 5, 6, 7, 8, 9, 10, 11] [] rfl rfl (by decide) (by decide) hk1 hFc hP1 hD1
          have hP : va_P (dC, dI) vwCl (cSt a cI (f_X4_stepFade M_2)) H20 := hP.sub [0, 1, 2, 3, 4, 5, 6, 7, 8, 9, 10, 11] rfl
          have hD : va_D (va_A (cSt a cI M) s.heap.size) (cSt a cI (f_X4_stepFade M_2)) := hD.sub [0, 1, 2, 3, 4, 5, 6, 7, 8, 9, 10, 11] (by decide) rfl
          obtain ⟨Mn22, eMn22⟩ : ∃ z : SR, z = (f_X4_stepFade M_2) := ⟨_, rfl⟩
          rw [sLet_eq, ← eMn22] at hR
          rw [← eMn22] at hP hD
          have hW23 : WF Mn22 := by rw [eMn22]; exact hens21
          exact hJ_21 x2_2 Mn22 ex2_2 hW23 hR _ _ _ hP hD hS (lv_sub hl [0, 1, 2] rfl)
  exact hL_2 (p1.toNatClampNeg + 1) 0 0 M (by decide +kernel) (Nat.zero_le _) (by rw [ep1, nI_clamp (by omega)]; omega) hW hR _ _ _ hP hD hS (lv_sub hl [1, 2, 0] rfl)
