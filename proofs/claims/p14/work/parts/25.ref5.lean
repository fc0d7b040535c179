abbrev rm_X6_reset : Room := { frames := 1, cells := 0, slots := 0, locals := 21 }
def f_X6_reset (R : SR)  : Int32 × SR := sLet (sU R 6 0 0) (fun Rn2 : SR => sLet ((f_X6_act Rn2)) (fun Rn12 : SR => sLet (sU Rn12 0 142 0) (fun Rn17 : SR => sLet (sU Rn17 0 143 0) (fun Rn22 : SR => (Rn12 0 142, Rn22)))))
set_option maxHeartbeats 4000000 in
set_option maxRecDepth 100000 in
theorem c_X6_reset (l : Launch) (dC : Nat → ClassId) (dI : Nat → Nat → Nat) (cI cC cS : ClassId) (a : Nat → Nat) (R : SR) (sz : Nat)  (ohv : vp_in (R 6 1) 6) (hI : RA R) (hs : RS R) : Met l yX6_reset wsX6_reset rm_X6_reset (PcG (dC, dI) (tyL cI cC cS) (cMd a cI R) sz [.ref (a 0)]) (va_Qi (fun (r : Int32) (u : SR) => (r, u) = f_X6_reset R ∧ (RA u) ∧ (RS u)) (fun u U => va_P (dC, dI) vwCl (cMd a cI u) U.heap ∧ va_D (va_A (cMd a cI R) sz) (cMd a cI u)) (va_A (cMd a cI R) sz)) 0 0 (va_A (cMd a cI R) sz) := by
  refine Met.ofW (cc := cX6_reset) (maxL := 2) (ret := (some .int)) (by decide) rfl ?_
  intro p e s m args below meth c s₁ B hml hv
  obtain ⟨rfl, hsz, hP, hK, hD0, hN⟩ := hv
  have hx := B.exec
  have hb := B.bytes
  have hr := B.returns
  have hts := atoms_spec (ws := wsX6_reset) B.pre
  have hown : s.vm.findClass RX6 = some m.cls := findClass_of_methodNamed B.named
  have hlocks := B.notSynchronized
  subst hsz
  have hD := hD0.self (sz := s.heap.size)
  have hA : ∀ q : Nat, s.heap.size ≤ q → (va_A (cMd a cI R) s.heap.size) q := fun q h => Or.inr h
  have hS : va_S (va_A (cMd a cI R) s.heap.size) s.heap s.heap [] := va_S.rf
  have hin6 : ∀ w ∈ wsX60, w ∈ wsX6_reset := fun _ h => List.mem_cons_of_mem _ (List.mem_append_right _ h)
  have hl := lv_entry [.ref (a 0)] (n := 2) (Nat.le_of_ble_eq_true rfl)
  rw [lg_entry_eq]
  generalize (lg_sl [.ref (a 0)] ++ List.replicate (2 - (lg_sl [.ref (a 0)]).length) Slot.unset).toArray = ls at hl ⊢
  have hl : lv_has ls 2 [(0, .ref (a 0))] := hl
  obtain ⟨R0, eR⟩ : ∃ z, z = f_X6_reset R := ⟨_, rfl⟩
  have hR := eR
  rw [f_X6_reset] at hR
  refine lv_aload_n hx hb dX6_reset_0 rfl (lv_at hl 0 rfl) ?_
  refine lv_iconst (v := 0) hx hb dX6_reset_1 (by decide) ?_
  refine va_put (D := (dC, dI)) (ci := 6) (v := .int 0) (ty := .int) (C := RX6) (T := TX6) (N := 15) hx hb hts hin6 tyX6 tyX6_ok nmX6 hown hK hP hD hS 0 rfl rfl 0 (by decide) (hts (.fieldLink RX6 28 "FeedDeskModel" "thrown" "I") (List.mem_of_getElem? (i := 1) rfl)) (fun _ h9 => h9) rfl (by decide +kernel) rfl rfl (Nat.le_of_ble_eq_true rfl) dX6_reset_2 (fun H1 locs hP hD hS => ?_)
  have hP : va_P (dC, dI) vwCl (cMd a cI (sU R 6 0 0)) H1 := hP
  have hD : va_D (va_A (cMd a cI R) s.heap.size) (cMd a cI (sU R 6 0 0)) := hD
  obtain ⟨Rn2, eRn2⟩ : ∃ z : SR, z = sU R 6 0 0 := ⟨_, rfl⟩
  rw [sLet_eq, ← eRn2] at hR
  rw [← eRn2] at hP hD
  have ohv3 : vp_in (Rn2 6 1) 6 := (by rw [eRn2]; exact ohv)
  have hI4 : RA Rn2 := (by rw [eRn2]; exact hI)
  have hs5 : RS Rn2 := (by rw [eRn2]; exact hs)
  refine lv_aload_n hx hb dX6_reset_5 rfl (lv_at hl 0 rfl) ?_
  have hPc : va_P (dC, dI) vwCl (cMd a cI Rn2) H1 := hP.sub [0, 1, 2, 3, 4, 5, 6] rfl
  have hDc : va_D (va_A (cMd a cI R) s.heap.size) (cMd a cI Rn2) := hD.sub [0, 1, 2, 3, 4, 5, 6] (by decide) rfl
  have hFc : ∀ q : Nat, va_A (cMd a cI Rn2) H1.size q → (va_A (cMd a cI R) s.heap.size) q := va_free hD hS hA [0, 1, 2, 3, 4, 5, 6] rfl
  refine va_callv (va_runV (As := []) (rest := []) ⟨hx, hb, hml, hown, hts⟩ (c_X6_act l dC dI cI cC cS a Rn2 H1.size ohv3) (cwV 0 hts gX6_reset_X6_act rfl rfl rfl (by decide +kernel) ⟨Nat.le_of_ble_eq_true rfl, Nat.le_of_ble_eq_true rfl⟩) (pV (q0 := 0) hK hPc hDc hN rfl rfl) rfl rfl hl.1 rfl (lv_room (Nat.le_of_ble_eq_true rfl)) dX6_reset_6 ⟨Nat.le_of_ble_eq_true rfl, Nat.le_of_ble_eq_true rfl⟩) hS (fun q _ h => hFc q h) hFc (fun u_6 t_6 H7 locs ht hvm hw hB hz1 hk1 hS => ?_)
  obtain ⟨hw, hens8, hens9, hens10, hens11⟩ := hw
  obtain ⟨hP1, hD1⟩ := hB
  rw [ht] at hP1
  subst hw
  obtain ⟨hP, hD⟩ := va_join (wc := cMd a cI Rn2) (wr := []) (w1 := cMd a cI (f_X6_act Rn2)) hP hD [0, 1, 2, 3, 4, 5, 6] [] rfl rfl (by decide) (by decide) hk1 hFc hP1 hD1
  have hP : va_P (dC, dI) vwCl (cMd a cI (f_X6_act Rn2)) H7 := hP.sub [0, 1, 2, 3, 4, 5, 6] rfl
  have hD : va_D (va_A (cMd a cI R) s.heap.size) (cMd a cI (f_X6_act Rn2)) := hD.sub [0, 1, 2, 3, 4, 5, 6] (by decide) rfl
  obtain ⟨Rn12, eRn12⟩ : ∃ z : SR, z = (f_X6_act Rn2) := ⟨_, rfl⟩
  rw [sLet_eq, ← eRn12] at hR
  rw [← eRn12] at hP hD
  have hI14 : RA Rn12 := (by rw [eRn12]; exact ra_eq hI4 hens8)
  have hs15 : RS Rn12 := (by rw [eRn12]; exact rs_eq0 hs5 hens8)
  refine lv_aload_n hx hb dX6_reset_9 rfl (lv_at hl 0 rfl) ?_
  refine va_get (D := (dC, dI)) (ci := 6) (v := .ref (a 1)) (C := RX6) (T := TX6) (N := 15) hx hb hts hin6 hown hK hP 0 rfl rfl 1 (by decide) (hts (.fieldLink RX6 7 "FeedDeskModel" "s" "[I") (List.mem_of_getElem? (i := 2) rfl)) (fun _ h9 => h9) rfl dX6_reset_10 ?_
  refine lv_sipush (v := 142) hx hb dX6_reset_13 (by decide) ?_
  refine va_iald (f := Rn12 0) hx hb hK hP 1 0 rfl rfl (vp_of_B (by decide +kernel : vp_okB (142) 289 = true)) dX6_reset_16 ?_
  refine lv_eqi (y := Rn12 0 142) rfl ?_
  refine lv_istore_n (lv' := [(1, .int (Rn12 0 142)), (0, .ref (a 0))]) hx hb dX6_reset_17 rfl hl (by decide) rfl (fun ls hl => ?_)
  refine lv_aload_n hx hb dX6_reset_18 rfl (lv_at hl 1 rfl) ?_
  refine va_get (D := (dC, dI)) (ci := 6) (v := .ref (a 1)) (C := RX6) (T := TX6) (N := 15) hx hb hts hin6 hown hK hP 0 rfl rfl 1 (by decide) (hts (.fieldLink RX6 7 "FeedDeskModel" "s" "[I") (List.mem_of_getElem? (i := 2) rfl)) (fun _ h9 => h9) rfl dX6_reset_19 ?_
  refine lv_sipush (v := 142) hx hb dX6_reset_22 (by decide) ?_
  refine lv_iconst (v := 0) hx hb dX6_reset_25 (by decide) ?_
  refine va_iast (f := Rn12 0) hx hb hK hP hD hS 1 0 rfl rfl (vp_of_B (by decide +kernel : vp_okB (142) 289 = true)) dX6_reset_26 (fun H16 locs hP hD hS => ?_)
  have hP : va_P (dC, dI) vwCl (cMd a cI (sU Rn12 0 142 0)) H16 := hP
  have hD : va_D (va_A (cMd a cI R) s.heap.size) (cMd a cI (sU Rn12 0 142 0)) := hD
  obtain ⟨Rn17, eRn17⟩ : ∃ z : SR, z = sU Rn12 0 142 0 := ⟨_, rfl⟩
  rw [sLet_eq, ← eRn17] at hR
  rw [← eRn17] at hP hD
  have hI19 : RA Rn17 := (by rw [eRn17]; exact ra_s hI14 (by decide +kernel))
  have hs20 : RS Rn17 := (by rw [eRn17]; exact rs_s hs15 (by decide +kernel))
  refine lv_aload_n hx hb dX6_reset_27 rfl (lv_at hl 1 rfl) ?_
  refine va_get (D := (dC, dI)) (ci := 6) (v := .ref (a 1)) (C := RX6) (T := TX6) (N := 15) hx hb hts hin6 hown hK hP 0 rfl rfl 1 (by decide) (hts (.fieldLink RX6 7 "FeedDeskModel" "s" "[I") (List.mem_of_getElem? (i := 2) rfl)) (fun _ h9 => h9) rfl dX6_reset_28 ?_
  refine lv_sipush (v := 143) hx hb dX6_reset_31 (by decide) ?_
  refine lv_iconst (v := 0) hx hb dX6_reset_34 (by decide) ?_
  refine va_iast (f := Rn17 0) hx hb hK hP hD hS 1 0 rfl rfl (vp_of_B (by decide +kernel : vp_okB (143) 289 = true)) dX6_reset_35 (fun H21 locs hP hD hS => ?_)
  have hP : va_P (dC, dI) vwCl (cMd a cI (sU Rn17 0 143 0)) H21 := hP
  have hD : va_D (va_A (cMd a cI R) s.heap.size) (cMd a cI (sU Rn17 0 143 0)) := hD
  obtain ⟨Rn22, eRn22⟩ : ∃ z : SR, z = sU Rn17 0 143 0 := ⟨_, rfl⟩
  rw [sLet_eq, ← eRn22] at hR
  rw [← eRn22] at hP hD
  have hI24 : RA Rn22 := (by rw [eRn22]; exact ra_s hI19 (by decide +kernel))
  have hs25 : RS Rn22 := (by rw [eRn22]; exact rs_s hs20 (by decide +kernel))
  refine lv_iload_n hx hb dX6_reset_36 rfl (lv_at hl 0 rfl) ?_
  exact W.iret (v := Rn12 0 142) hx hb hr (fun t ht hWw => ⟨⟨Rn12 0 142, Rn22, rfl, ⟨hR.symm.trans eR, hI24, hs25⟩, by rw [ht]; exact hP, hD⟩, hS.F ht⟩) hS.2.2 dX6_reset_37
abbrev rm_X6_undo : Room := { frames := 0, cells := 0, slots := 0, locals := 0 }
def f_X6_undo_p27   : Nat → Int32 → SR → (Int32 × SR)
  | 0, _, R_27 => (0, R_27)
  | n_27 + 1, x1_27, R_27 => (if 289 ≤ x1_27 then (R_27 6 1, R_27) else sLet (sU R_27 0 x1_27.toNatClampNeg (R_27 2 ((289 * (R_27 6 1)) + x1_27).toNatClampNeg)) (fun Rn13 : SR => (f_X6_undo_p27 n_27) (x1_27 + 1) Rn13))
def f_X6_undo (R : SR)  : Int32 × SR := sLet (sU R 6 0 0) (fun Rn2 : SR => (if (Rn2 6 1) = 0 then ((-2), Rn2) else sLet (sU Rn2 6 1 ((Rn2 6 1) - 1)) (fun Rn7 : SR => f_X6_undo_p27 290 0 Rn7)))
set_option maxHeartbeats 4000000 in
set_option maxRecDepth 100000 in
theorem c_X6_undo (l : Launch) (dC : Nat → ClassId) (dI : Nat → Nat → Nat) (cI cC cS : ClassId) (a : Nat → Nat) (R : SR) (sz : Nat)  (ohv : vp_in (R 6 1) 6) : Met l yX6_undo wsX6_undo rm_X6_undo (PcG (dC, dI) (tyL cI cC cS) (cMd a cI R) sz [.ref (a 0)]) (va_Qi (fun (r : Int32) (u : SR) => (r, u) = f_X6_undo R) (fun u U => va_P (dC, dI) vwCl (cMd a cI u) U.heap ∧ va_D (va_A (cMd a cI R) sz) (cMd a cI u)) (va_A (cMd a cI R) sz)) 0 0 (va_A (cMd a cI R) sz) := by
  refine Met.ofW (cc := cX6_undo) (maxL := 2) (ret := (some .int)) (by decide) rfl ?_
  intro p e s m args below meth c s₁ B hml hv
  obtain ⟨rfl, hsz, hP, hK, hD0, hN⟩ := hv
  have hx := B.exec
  have hb := B.bytes
  have hr := B.returns
  have hts := atoms_spec (ws := wsX6_undo) B.pre
  have hown : s.vm.findClass RX6 = some m.cls := findClass_of_methodNamed B.named
  have hlocks := B.notSynchronized
  subst hsz
  have hD := hD0.self (sz := s.heap.size)
  have hA : ∀ q : Nat, s.heap.size ≤ q → (va_A (cMd a cI R) s.heap.size) q := fun q h => Or.inr h
  have hS : va_S (va_A (cMd a cI R) s.heap.size) s.heap s.heap [] := va_S.rf
  have hin6 : ∀ w ∈ wsX60, w ∈ wsX6_undo := fun _ h => List.mem_cons_of_mem _ (List.mem_append_right _ h)
  have hl := lv_entry [.ref (a 0)] (n := 2) (Nat.le_of_ble_eq_true rfl)
  rw [lg_entry_eq]
  generalize (lg_sl [.ref (a 0)] ++ List.replicate (2 - (lg_sl [.ref (a 0)]).length) Slot.unset).toArray = ls at hl ⊢
  have hl : lv_has ls 2 [(0, .ref (a 0))] := hl
  obtain ⟨R0, eR⟩ : ∃ z, z = f_X6_undo R := ⟨_, rfl⟩
  have hR := eR
  rw [f_X6_undo] at hR
  refine lv_aload_n hx hb dX6_undo_0 rfl (lv_at hl 0 rfl) ?_
  refine lv_iconst (v := 0) hx hb dX6_undo_1 (by decide) ?_
  refine va_put (D := (dC, dI)) (ci := 6) (v := .int 0) (ty := .int) (C := RX6) (T := TX6) (N := 15) hx hb hts hin6 tyX6 tyX6_ok nmX6 hown hK hP hD hS 0 rfl rfl 0 (by decide) (hts (.fieldLink RX6 28 "FeedDeskModel" "thrown" "I") (List.mem_of_getElem? (i := 1) rfl)) (fun _ h9 => h9) rfl (by decide +kernel) rfl rfl (Nat.le_of_ble_eq_true rfl) dX6_undo_2 (fun H1 locs hP hD hS => ?_)
  have hP : va_P (dC, dI) vwCl (cMd a cI (sU R 6 0 0)) H1 := hP
  have hD : va_D (va_A (cMd a cI R) s.heap.size) (cMd a cI (sU R 6 0 0)) := hD
  obtain ⟨Rn2, eRn2⟩ : ∃ z : SR, z = sU R 6 0 0 := ⟨_, rfl⟩
  rw [sLet_eq, ← eRn2] at hR
  rw [← eRn2] at hP hD
  have ohv3 : vp_in (Rn2 6 1) 6 := (by rw [eRn2]; exact ohv)
  refine lv_aload_n hx hb dX6_undo_5 rfl (lv_at hl 0 rfl) ?_
  refine va_get (D := (dC, dI)) (ci := 6) (v := .int (Rn2 6 1)) (C := RX6) (T := TX6) (N := 15) hx hb hts hin6 hown hK hP 0 rfl rfl 4 (by decide) (hts (.fieldLink RX6 32 "FeedDeskModel" "savedMany" "I") (List.mem_of_getElem? (i := 2) rfl)) (fun _ h9 => h9) rfl dX6_undo_6 ?_
  refine lv_if_ne (tgt := 15) hx hb dX6_undo_9 (by decide) (fun c5 => ?_) (fun c5 => ?_)
  · rw [if_neg c5] at hR
    refine lv_aload_n hx hb dX6_undo_15 rfl (lv_at hl 0 rfl) ?_
    refine lv_dup hx hb dX6_undo_16 rfl ?_
    refine va_get (D := (dC, dI)) (ci := 6) (v := .int (Rn2 6 1)) (C := RX6) (T := TX6) (N := 15) hx hb hts hin6 hown hK hP 0 rfl rfl 4 (by decide) (hts (.fieldLink RX6 32 "FeedDeskModel" "savedMany" "I") (List.mem_of_getElem? (i := 2) rfl)) (fun _ h9 => h9) rfl dX6_undo_17 ?_
    refine lv_iconst (v := 1) hx hb dX6_undo_20 (by decide) ?_
    refine lv_isub hx hb dX6_undo_21 ?_
    refine va_put (D := (dC, dI)) (ci := 6) (v := .int ((Rn2 6 1) - 1)) (ty := .int) (C := RX6) (T := TX6) (N := 15) hx hb hts hin6 tyX6 tyX6_ok nmX6 hown hK hP hD hS 0 rfl rfl 4 (by decide) (hts (.fieldLink RX6 32 "FeedDeskModel" "savedMany" "I") (List.mem_of_getElem? (i := 2) rfl)) (fun _ h9 => h9) rfl (by decide +kernel) rfl rfl (Nat.le_of_ble_eq_true rfl) dX6_undo_22 (fun H6 locs hP hD hS => ?_)
    have hP : va_P (dC, dI) vwCl (cMd a cI (sU Rn2 6 1 ((Rn2 6 1) - 1))) H6 := hP
    have hD : va_D (va_A (cMd a cI R) s.heap.size) (cMd a cI (sU Rn2 6 1 ((Rn2 6 1) - 1))) := hD
    obtain ⟨Rn7, eRn7⟩ : ∃ z : SR, z = sU Rn2 6 1 ((Rn2 6 1) - 1) := ⟨_, rfl⟩
    rw [sLet_eq, ← eRn7] at hR
    rw [← eRn7] at hP hD
    have ov10 : vp_in (Rn7 6 1) 5 := by rw [eRn7]; show vp_in (Rn2 6 1 - 1) 5; exact sv_dec1 ohv3 c5
    refine lv_iconst (v := 0) hx hb dX6_undo_25 (by decide) ?_
    refine lv_istore_n (lv' := [(1, .int 0), (0, .ref (a 0))]) hx hb dX6_undo_26 rfl hl (by decide) rfl (fun ls hl => ?_)
    have hL_27 : ∀ n_27 : Nat, ∀ (j_27 : Nat), ∀ (x1_27 : Int32) (R_27 : SR), x1_27 = nI j_27 → j_27 ≤ 289 → 289 < j_27 + n_27 → vp_in (R_27 6 1) 5 → R0 = f_X6_undo_p27 n_27 x1_27 R_27 → ∀ (H : Heap) (locs : List Loc) (ls : Array Slot), va_P (dC, dI) vwCl (cMd a cI R_27) H → va_D (va_A (cMd a cI R) s.heap.size) (cMd a cI R_27) → va_S (va_A (cMd a cI R) s.heap.size) s.heap H locs → lv_has ls 2 [(0, .ref (a 0)), (1, .int x1_27)] → W p l e (headSpec wsX6_undo rm_X6_undo).room s m ([.ref (a 0)] : List Value).toArray below meth c H locs 0 0 (MQ below (va_Qi (fun (r : Int32) (u : SR) => (r, u) = f_X6_undo R) (fun u U => va_P (dC, dI) vwCl (cMd a cI u) U.heap ∧ va_D (va_A (cMd a cI R) s.heap.size) (cMd a cI u)) (va_A (cMd a cI R) s.heap.size)) ([.ref (a 0)] : List Value).toArray s 0 0 (va_A (cMd a cI R) s.heap.size)) (F0 m 27 ls []) := by
      intro n_27
      induction n_27 with
      | zero =>
        intro j_27 x1_27 R_27 ex1_27 hj0_27 hn_27 ov_27
        exact absurd hn_27 (by omega)
      | succ n_27 ih_27 =>
        intro j_27 x1_27 R_27 ex1_27 hj0_27 hn_27 ov_27 hR H locs ls hP hD hS hl
        rw [f_X6_undo_p27] at hR
        refine lv_iload_n hx hb dX6_undo_27 rfl (lv_at hl 1 rfl) ?_
        refine lv_sipush (v := 289) hx hb dX6_undo_28 (by decide) ?_
        refine lv_icmp_ge (tgt := 61) hx hb dX6_undo_31 (by decide) (fun c11 => ?_) (fun c11 => ?_)
        · rw [if_pos c11] at hR
          refine lv_aload_n hx hb dX6_undo_61 rfl (lv_at hl 0 rfl) ?_
          refine va_get (D := (dC, dI)) (ci := 6) (v := .int (R_27 6 1)) (C := RX6) (T := TX6) (N := 15) hx hb hts hin6 hown hK hP 0 rfl rfl 4 (by decide) (hts (.fieldLink RX6 32 "FeedDeskModel" "savedMany" "I") (List.mem_of_getElem? (i := 2) rfl)) (fun _ h9 => h9) rfl dX6_undo_62 ?_
          exact W.iret (v := R_27 6 1) hx hb hr (fun t ht hWw => ⟨⟨R_27 6 1, R_27, rfl, hR.symm.trans eR, by rw [ht]; exact hP, hD⟩, hS.F ht⟩) hS.2.2 dX6_undo_65
        · rw [if_neg c11] at hR
          have hj_27 : j_27 < 289 := lp_ge ex1_27 (by decide +kernel) (by omega) (by omega) c11
          refine lv_aload_n hx hb dX6_undo_34 rfl (lv_at hl 0 rfl) ?_
          refine va_get (D := (dC, dI)) (ci := 6) (v := .ref (a 1)) (C := RX6) (T := TX6) (N := 15) hx hb hts hin6 hown hK hP 0 rfl rfl 1 (by decide) (hts (.fieldLink RX6 7 "FeedDeskModel" "s" "[I") (List.mem_of_getElem? (i := 3) rfl)) (fun _ h9 => h9) rfl dX6_undo_35 ?_
          refine lv_iload_n hx hb dX6_undo_38 rfl (lv_at hl 1 rfl) ?_
          refine lv_aload_n hx hb dX6_undo_39 rfl (lv_at hl 0 rfl) ?_
          refine va_get (D := (dC, dI)) (ci := 6) (v := .ref (a 3)) (C := RX6) (T := TX6) (N := 15) hx hb hts hin6 hown hK hP 0 rfl rfl 3 (by decide) (hts (.fieldLink RX6 16 "FeedDeskModel" "saved" "[I") (List.mem_of_getElem? (i := 4) rfl)) (fun _ h9 => h9) rfl dX6_undo_40 ?_
          refine lv_sipush (v := 289) hx hb dX6_undo_43 (by decide) ?_
          refine lv_aload_n hx hb dX6_undo_46 rfl (lv_at hl 0 rfl) ?_
          refine va_get (D := (dC, dI)) (ci := 6) (v := .int (R_27 6 1)) (C := RX6) (T := TX6) (N := 15) hx hb hts hin6 hown hK hP 0 rfl rfl 4 (by decide) (hts (.fieldLink RX6 32 "FeedDeskModel" "savedMany" "I") (List.mem_of_getElem? (i := 2) rfl)) (fun _ h9 => h9) rfl dX6_undo_47 ?_
          refine lv_imul hx hb dX6_undo_50 ?_
          refine lv_iload_n hx hb dX6_undo_51 rfl (lv_at hl 1 rfl) ?_
          refine lv_iadd hx hb dX6_undo_52 ?_
          refine va_iald (f := R_27 2) hx hb hK hP 3 0 rfl rfl (sv_in ov_27 ex1_27 hj_27) dX6_undo_53 ?_
          refine va_iast (f := R_27 0) hx hb hK hP hD hS 1 0 rfl rfl (by rw [ex1_27]; exact vp_of_B (ix_35 j_27 hj_27)) dX6_undo_54 (fun H12 locs hP hD hS => ?_)
          have hP : va_P (dC, dI) vwCl (cMd a cI (sU R_27 0 x1_27.toNatClampNeg (R_27 2 ((289 * (R_27 6 1)) + x1_27).toNatClampNeg))) H12 := hP
          have hD : va_D (va_A (cMd a cI R) s.heap.size) (cMd a cI (sU R_27 0 x1_27.toNatClampNeg (R_27 2 ((289 * (R_27 6 1)) + x1_27).toNatClampNeg))) := hD
          obtain ⟨Rn13, eRn13⟩ : ∃ z : SR, z = sU R_27 0 x1_27.toNatClampNeg (R_27 2 ((289 * (R_27 6 1)) + x1_27).toNatClampNeg) := ⟨_, rfl⟩
          rw [sLet_eq, ← eRn13] at hR
          rw [← eRn13] at hP hD
          have ov15 : vp_in (Rn13 6 1) 5 := (by rw [eRn13]; exact ov_27)
          refine lv_iinc (v := x1_27 + 1) (lv' := [(1, .int (x1_27 + 1)), (0, .ref (a 0))]) hx hb dX6_undo_55 hl (k := 1) rfl rfl (by decide) rfl (fun ls hl => ?_)
          refine lv_goto (tgt := 27) hx hb dX6_undo_58 (by decide) ?_
          exact ih_27 (j_27 + 1) (x1_27 + 1) Rn13 (by rw [ex1_27, nI_1]) (by omega) (by omega) ov15 hR _ _ _ hP hD hS (lv_sub hl [1, 0] rfl)
    exact hL_27 290 0 0 Rn7 (by decide +kernel) (by decide) (by decide) ov10 hR _ _ _ hP hD hS (lv_sub hl [1, 0] rfl)
  · rw [if_pos c5] at hR
    refine lv_bipush (v := (-2)) hx hb dX6_undo_12 (by decide) ?_
    exact W.iret (v := (-2)) hx hb hr (fun t ht hWw => ⟨⟨(-2), Rn2, rfl, hR.symm.trans eR, by rw [ht]; exact hP, hD⟩, hS.F ht⟩) hS.2.2 dX6_undo_14
abbrev rm_X6_append : Room := { frames := 1, cells := 0, slots := 0, locals := 22 }
def f_X6_append (R : SR) (p1 : Int32) : Int32 × SR := sLet (sU R 6 0 0) (fun Rn2 : SR => (if (f_X6_in p1 1 255) = 0 then ((-1), Rn2) else (if (Rn2 6 2) = 140 then ((-3), Rn2) else sLet (sU Rn2 3 (Rn2 6 2).toNatClampNeg p1) (fun Rn10 : SR => sLet (sU Rn10 6 2 ((Rn10 6 2) + 1)) (fun Rn13 : SR => (Rn13 6 2, Rn13))))))
set_option maxHeartbeats 4000000 in
set_option maxRecDepth 100000 in
theorem c_X6_append (l : Launch) (dC : Nat → ClassId) (dI : Nat → Nat → Nat) (cI cC cS : ClassId) (a : Nat → Nat) (R : SR) (sz : Nat) (p1 : Int32) (ohg : vp_in (R 6 2) 141) : Met l yX6_append wsX6_append rm_X6_append (PcG (dC, dI) (tyL cI cC cS) (cMd a cI R) sz [.ref (a 0), .int p1]) (va_Qi (fun (r : Int32) (u : SR) => (r, u) = f_X6_append R p1) (fun u U => va_P (dC, dI) vwCl (cMd a cI u) U.heap ∧ va_D (va_A (cMd a cI R) sz) (cMd a cI u)) (va_A (cMd a cI R) sz)) 0 0 (va_A (cMd a cI R) sz) := by
  refine Met.ofW (cc := cX6_append) (maxL := 2) (ret := (some .int)) (by decide) rfl ?_
  intro p e s m args below meth c s₁ B hml hv
  obtain ⟨rfl, hsz, hP, hK, hD0, hN⟩ := hv
  have hx := B.exec
  have hb := B.bytes
  have hr := B.returns
  have hts := atoms_spec (ws := wsX6_append) B.pre
  have hown : s.vm.findClass RX6 = some m.cls := findClass_of_methodNamed B.named
  have hlocks := B.notSynchronized
  subst hsz
  have hD := hD0.self (sz := s.heap.size)
  have hA : ∀ q : Nat, s.heap.size ≤ q → (va_A (cMd a cI R) s.heap.size) q := fun q h => Or.inr h
  have hS : va_S (va_A (cMd a cI R) s.heap.size) s.heap s.heap [] := va_S.rf
  have hin6 : ∀ w ∈ wsX60, w ∈ wsX6_append := fun _ h => List.mem_cons_of_mem _ (List.mem_append_right _ h)
  have hl := lv_entry [.ref (a 0), .int p1] (n := 2) (Nat.le_of_ble_eq_true rfl)
  rw [lg_entry_eq]
  generalize (lg_sl [.ref (a 0), .int p1] ++ List.replicate (2 - (lg_sl [.ref (a 0), .int p1]).length) Slot.unset).toArray = ls at hl ⊢
  have hl : lv_has ls 2 [(0, .ref (a 0)), (1, .int p1)] := hl
  obtain ⟨R0, eR⟩ : ∃ z, z = f_X6_append R p1 := ⟨_, rfl⟩
  have hR := eR
  rw [f_X6_append] at hR
  refine lv_aload_n hx hb dX6_append_0 rfl (lv_at hl 0 rfl) ?_
  refine lv_iconst (v := 0) hx hb dX6_append_1 (by decide) ?_
  refine va_put (D := (dC, dI)) (ci := 6) (v := .int 0) (ty := .int) (C := RX6) (T := TX6) (N := 15) hx hb hts hin6 tyX6 tyX6_ok nmX6 hown hK hP hD hS 0 rfl rfl 0 (by decide) (hts (.fieldLink RX6 28 "FeedDeskModel" "thrown" "I") (List.mem_of_getElem? (i := 1) rfl)) (fun _ h9 => h9) rfl (by decide +kernel) rfl rfl (Nat.le_of_ble_eq_true rfl) dX6_append_2 (fun H1 locs hP hD hS => ?_)
  have hP : va_P (dC, dI) vwCl (cMd a cI (sU R 6 0 0)) H1 := hP
  have hD : va_D (va_A (cMd a cI R) s.heap.size) (cMd a cI (sU R 6 0 0)) := hD
  obtain ⟨Rn2, eRn2⟩ : ∃ z : SR, z = sU R 6 0 0 := ⟨_, rfl⟩
  rw [sLet_eq, ← eRn2] at hR
  rw [← eRn2] at hP hD
  have ohg3 : vp_in (Rn2 6 2) 141 := (by rw [eRn2]; exact ohg)
  refine lv_iload_n hx hb dX6_append_5 rfl (lv_at hl 1 rfl) ?_
  refine lv_iconst (v := 1) hx hb dX6_append_6 (by decide) ?_
  refine lv_sipush (v := 255) hx hb dX6_append_7 (by decide) ?_
  have hFc : ∀ q : Nat, va_A [] H1.size q → (va_A (cMd a cI R) s.heap.size) q := roF hS hA
  refine va_calli (va_runS (As := [.int p1, .int 1, .int 255]) (rest := []) ⟨hx, hb, hml, hown, hts⟩ (c_X6_in l dC dI cI cC cS H1.size p1 1 255) (va_cwS 3 hts gX6_append_X6_in rfl rfl rfl (by decide +kernel) ⟨Nat.le_of_ble_eq_true rfl, Nat.le_of_ble_eq_true rfl⟩) (pS hK (va_P_nil) (va_D_nil) hN) rfl rfl hl.1 rfl (lv_room (Nat.le_of_ble_eq_true rfl)) dX6_append_10 ⟨Nat.le_of_ble_eq_true rfl, Nat.le_of_ble_eq_true rfl⟩) hS (fun q _ h => hFc q h) hFc (fun r_4 u_4 t_4 H5 locs ht hvm hw hB hz1 hk1 hS => ?_)
  obtain ⟨hw, hre6⟩ := hw
  subst hw
  have hP := ro_keep hP hk1
  refine lv_if_ne (tgt := 18) hx hb dX6_append_13 (by decide) (fun c7 => ?_) (fun c7 => ?_)
  · rw [if_neg c7] at hR
    refine lv_aload_n hx hb dX6_append_18 rfl (lv_at hl 0 rfl) ?_
    refine va_get (D := (dC, dI)) (ci := 6) (v := .int (Rn2 6 2)) (C := RX6) (T := TX6) (N := 15) hx hb hts hin6 hown hK hP 0 rfl rfl 6 (by decide) (hts (.fieldLink RX6 122 "FeedDeskModel" "length" "I") (List.mem_of_getElem? (i := 2) rfl)) (fun _ h9 => h9) rfl dX6_append_19 ?_
    refine lv_sipush (v := 140) hx hb dX6_append_22 (by decide) ?_
    refine lv_icmp_ne (tgt := 31) hx hb dX6_append_25 (by decide) (fun c8 => ?_) (fun c8 => ?_)
    · rw [if_neg c8] at hR
      refine lv_aload_n hx hb dX6_append_31 rfl (lv_at hl 0 rfl) ?_
      refine va_get (D := (dC, dI)) (ci := 6) (v := .ref (a 4)) (C := RX6) (T := TX6) (N := 15) hx hb hts hin6 hown hK hP 0 rfl rfl 5 (by decide) (hts (.fieldLink RX6 19 "FeedDeskModel" "text" "[I") (List.mem_of_getElem? (i := 3) rfl)) (fun _ h9 => h9) rfl dX6_append_32 ?_
      refine lv_aload_n hx hb dX6_append_35 rfl (lv_at hl 0 rfl) ?_
      refine va_get (D := (dC, dI)) (ci := 6) (v := .int (Rn2 6 2)) (C := RX6) (T := TX6) (N := 15) hx hb hts hin6 hown hK hP 0 rfl rfl 6 (by decide) (hts (.fieldLink RX6 122 "FeedDeskModel" "length" "I") (List.mem_of_getElem? (i := 2) rfl)) (fun _ h9 => h9) rfl dX6_append_36 ?_
      refine lv_iload_n hx hb dX6_append_39 rfl (lv_at hl 1 rfl) ?_
      refine va_iast (f := Rn2 3) hx hb hK hP hD hS 4 0 rfl rfl (len_in ohg3 c8) dX6_append_40 (fun H9 locs hP hD hS => ?_)
      have hP : va_P (dC, dI) vwCl (cMd a cI (sU Rn2 3 (Rn2 6 2).toNatClampNeg p1)) H9 := hP
      have hD : va_D (va_A (cMd a cI R) s.heap.size) (cMd a cI (sU Rn2 3 (Rn2 6 2).toNatClampNeg p1)) := hD
      obtain ⟨Rn10, eRn10⟩ : ∃ z : SR, z = sU Rn2 3 (Rn2 6 2).toNatClampNeg p1 := ⟨_, rfl⟩
      rw [sLet_eq, ← eRn10] at hR
      rw [← eRn10] at hP hD
      have ohg11 : vp_in (Rn10 6 2) 141 := (by rw [eRn10]; exact ohg3)
      refine lv_aload_n hx hb dX6_append_41 rfl (lv_at hl 0 rfl) ?_
      refine lv_dup hx hb dX6_append_42 rfl ?_
      refine va_get (D := (dC, dI)) (ci := 6) (v := .int (Rn10 6 2)) (C := RX6) (T := TX6) (N := 15) hx hb hts hin6 hown hK hP 0 rfl rfl 6 (by decide) (hts (.fieldLink RX6 122 "FeedDeskModel" "length" "I") (List.mem_of_getElem? (i := 2) rfl)) (fun _ h9 => h9) rfl dX6_append_43 ?_
      refine lv_iconst (v := 1) hx hb dX6_append_46 (by decide) ?_
      refine lv_iadd hx hb dX6_append_47 ?_
      refine va_put (D := (dC, dI)) (ci := 6) (v := .int ((Rn10 6 2) + 1)) (ty := .int) (C := RX6) (T := TX6) (N := 15) hx hb hts hin6 tyX6 tyX6_ok nmX6 hown hK hP hD hS 0 rfl rfl 6 (by decide) (hts (.fieldLink RX6 122 "FeedDeskModel" "length" "I") (List.mem_of_getElem? (i := 2) rfl)) (fun _ h9 => h9) rfl (by decide +kernel) rfl rfl (Nat.le_of_ble_eq_true rfl) dX6_append_48 (fun H12 locs hP hD hS => ?_)
      have hP : va_P (dC, dI) vwCl (cMd a cI (sU Rn10 6 2 ((Rn10 6 2) + 1))) H12 := hP
      have hD : va_D (va_A (cMd a cI R) s.heap.size) (cMd a cI (sU Rn10 6 2 ((Rn10 6 2) + 1))) := hD
      obtain ⟨Rn13, eRn13⟩ : ∃ z : SR, z = sU Rn10 6 2 ((Rn10 6 2) + 1) := ⟨_, rfl⟩
      rw [sLet_eq, ← eRn13] at hR
      rw [← eRn13] at hP hD
      refine lv_aload_n hx hb dX6_append_51 rfl (lv_at hl 0 rfl) ?_
      refine va_get (D := (dC, dI)) (ci := 6) (v := .int (Rn13 6 2)) (C := RX6) (T := TX6) (N := 15) hx hb hts hin6 hown hK hP 0 rfl rfl 6 (by decide) (hts (.fieldLink RX6 122 "FeedDeskModel" "length" "I") (List.mem_of_getElem? (i := 2) rfl)) (fun _ h9 => h9) rfl dX6_append_52 ?_
      exact W.iret (v := Rn13 6 2) hx hb hr (fun t ht hWw => ⟨⟨Rn13 6 2, Rn13, rfl, hR.symm.trans eR, by rw [ht]; exact hP, hD⟩, hS.F ht⟩) hS.2.2 dX6_append_55
    · rw [if_pos c8] at hR
      refine lv_bipush (v := (-3)) hx hb dX6_append_28 (by decide) ?_
      exact W.iret (v := (-3)) hx hb hr (fun t ht hWw => ⟨⟨(-3), Rn2, rfl, hR.symm.trans eR, by rw [ht]; exact hP, hD⟩, hS.F ht⟩) hS.2.2 dX6_append_30
  · rw [if_pos c7] at hR
    refine lv_iconst (v := (-1)) hx hb dX6_append_16 (by decide) ?_
    exact W.iret (v := (-1)) hx hb hr (fun t ht hWw => ⟨⟨(-1), Rn2, rfl, hR.symm.trans eR, by rw [ht]; exact hP, hD⟩, hS.F ht⟩) hS.2.2 dX6_append_17
abbrev rm_X6_clearText : Room := { frames := 0, cells := 0, slots := 0, locals := 0 }
def f_X6_clearText (R : SR)  : Int32 × SR := sLet (sU R 6 0 0) (fun Rn2 : SR => sLet (sU Rn2 6 2 0) (fun Rn4 : SR => (Rn2 6 2, Rn4)))
set_option maxHeartbeats 4000000 in
set_option maxRecDepth 100000 in
theorem c_X6_clearText (l : Launch) (dC : Nat → ClassId) (dI : Nat → Nat → Nat) (cI cC cS : ClassId) (a : Nat → Nat) (R : SR) (sz : Nat)   : Met l yX6_clearText wsX6_clearText rm_X6_clearText (PcG (dC, dI) (tyL cI cC cS) (cMd a cI R) sz [.ref (a 0)]) (va_Qi (fun (r : Int32) (u : SR) => (r, u) = f_X6_clearText R) (fun u U => va_P (dC, dI) vwCl (cMd a cI u) U.heap ∧ va_D (va_A (cMd a cI R) sz) (cMd a cI u)) (va_A (cMd a cI R) sz)) 0 0 (va_A (cMd a cI R) sz) := by
  refine Met.ofW (cc := cX6_clearText) (maxL := 2) (ret := (some .int)) (by decide) rfl ?_
  intro p e s m args below meth c s₁ B hml hv
  obtain ⟨rfl, hsz, hP, hK, hD0, hN⟩ := hv
  have hx := B.exec
  have hb := B.bytes
  have hr := B.returns
  have hts := atoms_spec (ws := wsX6_clearText) B.pre
  have hown : s.vm.findClass RX6 = some m.cls := findClass_of_methodNamed B.named
  have hlocks := B.notSynchronized
  subst hsz
  have hD := hD0.self (sz := s.heap.size)
  have hA : ∀ q : Nat, s.heap.size ≤ q → (va_A (cMd a cI R) s.heap.size) q := fun q h => Or.inr h
  have hS : va_S (va_A (cMd a cI R) s.heap.size) s.heap s.heap [] := va_S.rf
  have hin6 : ∀ w ∈ wsX60, w ∈ wsX6_clearText := fun _ h => List.mem_cons_of_mem _ (List.mem_append_right _ h)
  have hl := lv_entry [.ref (a 0)] (n := 2) (Nat.le_of_ble_eq_true rfl)
  rw [lg_entry_eq]
  generalize (lg_sl [.ref (a 0)] ++ List.replicate (2 - (lg_sl [.ref (a 0)]).length) Slot.unset).toArray = ls at hl ⊢
  have hl : lv_has ls 2 [(0, .ref (a 0))] := hl
  obtain ⟨R0, eR⟩ : ∃ z, z = f_X6_clearText R := ⟨_, rfl⟩
  have hR := eR
  rw [f_X6_clearText] at hR
  refine lv_aload_n hx hb dX6_clearText_0 rfl (lv_at hl 0 rfl) ?_
  refine lv_iconst (v := 0) hx hb dX6_clearText_1 (by decide) ?_
  refine va_put (D := (dC, dI)) (ci := 6) (v := .int 0) (ty := .int) (C := RX6) (T := TX6) (N := 15) hx hb hts hin6 tyX6 tyX6_ok nmX6 hown hK hP hD hS 0 rfl rfl 0 (by decide) (hts (.fieldLink RX6 28 "FeedDeskModel" "thrown" "I") (List.mem_of_getElem? (i := 1) rfl)) (fun _ h9 => h9) rfl (by decide +kernel) rfl rfl (Nat.le_of_ble_eq_true rfl) dX6_clearText_2 (fun H1 locs hP hD hS => ?_)
  have hP : va_P (dC, dI) vwCl (cMd a cI (sU R 6 0 0)) H1 := hP
  have hD : va_D (va_A (cMd a cI R) s.heap.size) (cMd a cI (sU R 6 0 0)) := hD
  obtain ⟨Rn2, eRn2⟩ : ∃ z : SR, z = sU R 6 0 0 := ⟨_, rfl⟩
  rw [sLet_eq, ← eRn2] at hR
  rw [← eRn2] at hP hD
  refine lv_aload_n hx hb dX6_clearText_5 rfl (lv_at hl 0 rfl) ?_
  refine va_get (D := (dC, dI)) (ci := 6) (v := .int (Rn2 6 2)) (C := RX6) (T := TX6) (N := 15) hx hb hts hin6 hown hK hP 0 rfl rfl 6 (by decide) (hts (.fieldLink RX6 122 "FeedDeskModel" "length" "I") (List.mem_of_getElem? (i := 2) rfl)) (fun _ h9 => h9) rfl dX6_clearText_6 ?_
  refine lv_istore_n (lv' := [(1, .int (Rn2 6 2)), (0, .ref (a 0))]) hx hb dX6_clearText_9 rfl hl (by decide) rfl (fun ls hl => ?_)
  refine lv_aload_n hx hb dX6_clearText_10 rfl (lv_at hl 1 rfl) ?_
  refine lv_iconst (v := 0) hx hb dX6_clearText_11 (by decide) ?_
  refine va_put (D := (dC, dI)) (ci := 6) (v := .int 0) (ty := .int) (C := RX6) (T := TX6) (N := 15) hx hb hts hin6 tyX6 tyX6_ok nmX6 hown hK hP hD hS 0 rfl rfl 6 (by decide) (hts (.fieldLink RX6 122 "FeedDeskModel" "length" "I") (List.mem_of_getElem? (i := 2) rfl)) (fun _ h9 => h9) rfl (by decide +kernel) rfl rfl (Nat.le_of_ble_eq_true rfl) dX6_clearText_12 (fun H3 locs hP hD hS => ?_)
  have hP : va_P (dC, dI) vwCl (cMd a cI (sU Rn2 6 2 0)) H3 := hP
  have hD : va_D (va_A (cMd a cI R) s.heap.size) (cMd a cI (sU Rn2 6 2 0)) := hD
  obtain ⟨Rn4, eRn4⟩ : ∃ z : SR, z = sU Rn2 6 2 0 := ⟨_, rfl⟩
  rw [sLet_eq, ← eRn4] at hR
  rw [← eRn4] at hP hD
  refine lv_iload_n hx hb dX6_clearText_15 rfl (lv_at hl 0 rfl) ?_
  exact W.iret (v := Rn2 6 2) hx hb hr (fun t ht hWw => ⟨⟨Rn2 6 2, Rn4, rfl, hR.symm.trans eR, by rw [ht]; exact hP, hD⟩, hS.F ht⟩) hS.2.2 dX6_clearText_16
