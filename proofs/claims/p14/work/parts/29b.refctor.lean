def rowMd : Nat → Int32 := upd (upd (upd (upd (upd (upd (upd (upd (upd z0 72 100) 84 (-1)) 73 100) 85 (-1)) 74 100) 86 (-1)) 75 100) 87 (-1)) 144 (-1)
def R0 : SR := fun r => if r = 0 then rowMd else z0

abbrev rm_X6_init : Room := { frames := 1, cells := 6, slots := 2171, locals := 12 }
set_option maxHeartbeats 4000000 in
set_option maxRecDepth 100000 in
theorem c_X6_init (l : Launch) (dC : Nat → ClassId) (dI : Nat → Nat → Nat) (cI cC cS : ClassId) (h0 : Nat) (sz : Nat) : Met l yX6_init wsX6_init rm_X6_init (PcN (dC, dI) (tyL cI cC cS) [(h0, .inr (6, [.int 0, .null, .null, .null, .int 0, .null, .int 0, .int 0, .int 0, .null, .null, .int 0, .int 0, .int 0, .int 0]))] sz [.ref h0]) (va_Qv (fun q : Nat → Nat => q 0 = h0) (fun q U => va_P (dC, dI) vwCl (cMd q cI R0) U.heap ∧ va_D (va_A [(h0, .inr (6, [.int 0, .null, .null, .null, .int 0, .null, .int 0, .int 0, .int 0, .null, .null, .int 0, .int 0, .int 0, .int 0]))] sz) (cMd q cI R0)) (va_A [(h0, .inr (6, [.int 0, .null, .null, .null, .int 0, .null, .int 0, .int 0, .int 0, .null, .null, .int 0, .int 0, .int 0, .int 0]))] sz)) 6 2171 (va_A [(h0, .inr (6, [.int 0, .null, .null, .null, .int 0, .null, .int 0, .int 0, .int 0, .null, .null, .int 0, .int 0, .int 0, .int 0]))] sz) := by
  refine Met.ofW (cc := cX6_init) (maxL := 2) (ret := none) (by decide) rfl ?_
  intro p e s m args below meth c s₁ B hml hv
  obtain ⟨rfl, hsz, hP, hK, hD0, hN, hO⟩ := hv
  have hx := B.exec
  have hb := B.bytes
  have hr := B.returns
  have hts := atoms_spec (ws := wsX6_init) B.pre
  have hown : s.vm.findClass RX6 = some m.cls := findClass_of_methodNamed B.named
  have hlocks := B.notSynchronized
  have hin : meth.name = "<init>" := (name_of_methodNamed B.named B.method).1
  subst hsz
  have hD := hD0.self (sz := s.heap.size)
  have hA : ∀ q : Nat, s.heap.size ≤ q → va_A [(h0, .inr (6, [.int 0, .null, .null, .null, .int 0, .null, .int 0, .int 0, .int 0, .null, .null, .int 0, .int 0, .int 0, .int 0]))] s.heap.size q := fun q h => Or.inr h
  have hS : va_S (va_A [(h0, .inr (6, [.int 0, .null, .null, .null, .int 0, .null, .int 0, .int 0, .int 0, .null, .null, .int 0, .int 0, .int 0, .int 0]))] s.heap.size) s.heap s.heap [] := va_S.rf
  have hin6 : ∀ w ∈ wsX60, w ∈ wsX6_init := fun _ h => List.mem_cons_of_mem _ (List.mem_append_right _ h)
  have hl := lv_entry [.ref h0] (n := 2) (Nat.le_of_ble_eq_true rfl)
  rw [lg_entry_eq]
  generalize (lg_sl [.ref h0] ++ List.replicate (2 - (lg_sl [.ref h0]).length) Slot.unset).toArray = ls at hl ⊢
  have hl : lv_has ls 2 [(0, .ref h0)] := hl
  refine lv_aload_n hx hb dX6_init_0 rfl (lv_at hl 0 rfl) ?_
  refine W.objInit hx hb hown (hts (.methodLink RX6 1 objectInit) (List.mem_of_getElem? (i := 1) rfl)) (hts (.instanceMethod objectInit) (List.mem_of_getElem? (i := 2) rfl)) (hts (.code objectInit ⟨#[0xb1]⟩ 1 none) (List.mem_of_getElem? (i := 3) rfl)) rfl (by rw [hml]; exact hl.1) rfl dX6_init_1 (Nat.le_of_ble_eq_true rfl) (Nat.le_of_ble_eq_true rfl) ?_
  refine W.eq (g2 := F0 m 4 ls []) rfl ?_
  refine lv_aload_n hx hb dX6_init_4 rfl (lv_at hl 0 rfl) ?_
  refine lv_sipush (v := 289) hx hb dX6_init_5 (by decide) ?_
  refine va_newa (atype := .int) (ty := .int) (a0 := (289, .inl z0)) (N' := 289) hx hb (hts (.arrayClass .int) (List.mem_of_getElem? (i := 4) rfl)) rfl hK hP hD hS hA (fun cA => rfl) (by decide) (by decide +kernel) (Nat.le_of_ble_eq_true rfl) (Nat.le_of_ble_eq_true rfl) (Nat.le_of_ble_eq_true rfl) dX6_init_8 (fun q1 cA H2 hK1 hP hD hS => ?_)
  have eA := int_same 0 3 hK rfl hK1 rfl
  rw [eA] at hP hD
  clear eA hK1
  have hP : va_P (dC, dI) vwCl ([(h0, .inr (6, [.int 0, .null, .null, .null, .int 0, .null, .int 0, .int 0, .int 0, .null, .null, .int 0, .int 0, .int 0, .int 0])), (q1, .inl (cI, 289, .inl z0))]) H2 := hP
  have hD : va_D (va_A [(h0, .inr (6, [.int 0, .null, .null, .null, .int 0, .null, .int 0, .int 0, .int 0, .null, .null, .int 0, .int 0, .int 0, .int 0]))] s.heap.size) ([(h0, .inr (6, [.int 0, .null, .null, .null, .int 0, .null, .int 0, .int 0, .int 0, .null, .null, .int 0, .int 0, .int 0, .int 0])), (q1, .inl (cI, 289, .inl z0))]) := hD
  refine W.widen (k := 1) (n := 289) (Nat.le_of_ble_eq_true rfl) (Nat.le_of_ble_eq_true rfl) ?_
  refine va_putF (D := (dC, dI)) (ci := 6) (v := .ref q1) (ty := .array .int) (C := RX6) (T := TX6) (N := 15) hx hb hts hin6 tyX6 tyX6_ok nmX6 hown hK hP hD hS 0 rfl rfl 1 (by decide) (hts (.fieldLink RX6 7 "FeedDeskModel" "s" "[I") (List.mem_of_getElem? (i := 5) rfl)) (fun _ h9 => h9) rfl hin rfl (by decide +kernel) rfl rfl (Nat.le_of_ble_eq_true rfl) dX6_init_10 (fun H3 locs hP hD hS => ?_)
  have hP : va_P (dC, dI) vwCl ([(h0, .inr (6, [.int 0, .ref q1, .null, .null, .int 0, .null, .int 0, .int 0, .int 0, .null, .null, .int 0, .int 0, .int 0, .int 0])), (q1, .inl (cI, 289, .inl z0))]) H3 := hP
  have hD : va_D (va_A [(h0, .inr (6, [.int 0, .null, .null, .null, .int 0, .null, .int 0, .int 0, .int 0, .null, .null, .int 0, .int 0, .int 0, .int 0]))] s.heap.size) ([(h0, .inr (6, [.int 0, .ref q1, .null, .null, .int 0, .null, .int 0, .int 0, .int 0, .null, .null, .int 0, .int 0, .int 0, .int 0])), (q1, .inl (cI, 289, .inl z0))]) := hD
  refine lv_aload_n hx hb dX6_init_13 rfl (lv_at hl 0 rfl) ?_
  refine lv_sipush (v := 289) hx hb dX6_init_14 (by decide) ?_
  refine va_newa (atype := .int) (ty := .int) (a0 := (289, .inl z0)) (N' := 289) hx hb (hts (.arrayClass .int) (List.mem_of_getElem? (i := 4) rfl)) rfl hK hP hD hS hA (fun cA => rfl) (by decide) (by decide +kernel) (Nat.le_of_ble_eq_true rfl) (Nat.le_of_ble_eq_true rfl) (Nat.le_of_ble_eq_true rfl) dX6_init_17 (fun q4 cA H5 hK1 hP hD hS => ?_)
  have eA := int_same 0 3 hK rfl hK1 rfl
  rw [eA] at hP hD
  clear eA hK1
  have hP : va_P (dC, dI) vwCl ([(h0, .inr (6, [.int 0, .ref q1, .null, .null, .int 0, .null, .int 0, .int 0, .int 0, .null, .null, .int 0, .int 0, .int 0, .int 0])), (q1, .inl (cI, 289, .inl z0)), (q4, .inl (cI, 289, .inl z0))]) H5 := hP
  have hD : va_D (va_A [(h0, .inr (6, [.int 0, .null, .null, .null, .int 0, .null, .int 0, .int 0, .int 0, .null, .null, .int 0, .int 0, .int 0, .int 0]))] s.heap.size) ([(h0, .inr (6, [.int 0, .ref q1, .null, .null, .int 0, .null, .int 0, .int 0, .int 0, .null, .null, .int 0, .int 0, .int 0, .int 0])), (q1, .inl (cI, 289, .inl z0)), (q4, .inl (cI, 289, .inl z0))]) := hD
  refine W.widen (k := 2) (n := 578) (Nat.le_of_ble_eq_true rfl) (Nat.le_of_ble_eq_true rfl) ?_
  refine va_putF (D := (dC, dI)) (ci := 6) (v := .ref q4) (ty := .array .int) (C := RX6) (T := TX6) (N := 15) hx hb hts hin6 tyX6 tyX6_ok nmX6 hown hK hP hD hS 0 rfl rfl 2 (by decide) (hts (.fieldLink RX6 13 "FeedDeskModel" "aside" "[I") (List.mem_of_getElem? (i := 6) rfl)) (fun _ h9 => h9) rfl hin rfl (by decide +kernel) rfl rfl (Nat.le_of_ble_eq_true rfl) dX6_init_19 (fun H6 locs hP hD hS => ?_)
  have hP : va_P (dC, dI) vwCl ([(h0, .inr (6, [.int 0, .ref q1, .ref q4, .null, .int 0, .null, .int 0, .int 0, .int 0, .null, .null, .int 0, .int 0, .int 0, .int 0])), (q1, .inl (cI, 289, .inl z0)), (q4, .inl (cI, 289, .inl z0))]) H6 := hP
  have hD : va_D (va_A [(h0, .inr (6, [.int 0, .null, .null, .null, .int 0, .null, .int 0, .int 0, .int 0, .null, .null, .int 0, .int 0, .int 0, .int 0]))] s.heap.size) ([(h0, .inr (6, [.int 0, .ref q1, .ref q4, .null, .int 0, .null, .int 0, .int 0, .int 0, .null, .null, .int 0, .int 0, .int 0, .int 0])), (q1, .inl (cI, 289, .inl z0)), (q4, .inl (cI, 289, .inl z0))]) := hD
  refine lv_aload_n hx hb dX6_init_22 rfl (lv_at hl 0 rfl) ?_
  refine lv_sipush (v := 1445) hx hb dX6_init_23 (by decide) ?_
  refine va_newa (atype := .int) (ty := .int) (a0 := (1445, .inl z0)) (N' := 1445) hx hb (hts (.arrayClass .int) (List.mem_of_getElem? (i := 4) rfl)) rfl hK hP hD hS hA (fun cA => rfl) (by decide) (by decide +kernel) (Nat.le_of_ble_eq_true rfl) (Nat.le_of_ble_eq_true rfl) (Nat.le_of_ble_eq_true rfl) dX6_init_26 (fun q7 cA H8 hK1 hP hD hS => ?_)
  have eA := int_same 0 3 hK rfl hK1 rfl
  rw [eA] at hP hD
  clear eA hK1
  have hP : va_P (dC, dI) vwCl ([(h0, .inr (6, [.int 0, .ref q1, .ref q4, .null, .int 0, .null, .int 0, .int 0, .int 0, .null, .null, .int 0, .int 0, .int 0, .int 0])), (q1, .inl (cI, 289, .inl z0)), (q4, .inl (cI, 289, .inl z0)), (q7, .inl (cI, 1445, .inl z0))]) H8 := hP
  have hD : va_D (va_A [(h0, .inr (6, [.int 0, .null, .null, .null, .int 0, .null, .int 0, .int 0, .int 0, .null, .null, .int 0, .int 0, .int 0, .int 0]))] s.heap.size) ([(h0, .inr (6, [.int 0, .ref q1, .ref q4, .null, .int 0, .null, .int 0, .int 0, .int 0, .null, .null, .int 0, .int 0, .int 0, .int 0])), (q1, .inl (cI, 289, .inl z0)), (q4, .inl (cI, 289, .inl z0)), (q7, .inl (cI, 1445, .inl z0))]) := hD
  refine W.widen (k := 3) (n := 2023) (Nat.le_of_ble_eq_true rfl) (Nat.le_of_ble_eq_true rfl) ?_
  refine va_putF (D := (dC, dI)) (ci := 6) (v := .ref q7) (ty := .array .int) (C := RX6) (T := TX6) (N := 15) hx hb hts hin6 tyX6 tyX6_ok nmX6 hown hK hP hD hS 0 rfl rfl 3 (by decide) (hts (.fieldLink RX6 16 "FeedDeskModel" "saved" "[I") (List.mem_of_getElem? (i := 7) rfl)) (fun _ h9 => h9) rfl hin rfl (by decide +kernel) rfl rfl (Nat.le_of_ble_eq_true rfl) dX6_init_28 (fun H9 locs hP hD hS => ?_)
  have hP : va_P (dC, dI) vwCl ([(h0, .inr (6, [.int 0, .ref q1, .ref q4, .ref q7, .int 0, .null, .int 0, .int 0, .int 0, .null, .null, .int 0, .int 0, .int 0, .int 0])), (q1, .inl (cI, 289, .inl z0)), (q4, .inl (cI, 289, .inl z0)), (q7, .inl (cI, 1445, .inl z0))]) H9 := hP
  have hD : va_D (va_A [(h0, .inr (6, [.int 0, .null, .null, .null, .int 0, .null, .int 0, .int 0, .int 0, .null, .null, .int 0, .int 0, .int 0, .int 0]))] s.heap.size) ([(h0, .inr (6, [.int 0, .ref q1, .ref q4, .ref q7, .int 0, .null, .int 0, .int 0, .int 0, .null, .null, .int 0, .int 0, .int 0, .int 0])), (q1, .inl (cI, 289, .inl z0)), (q4, .inl (cI, 289, .inl z0)), (q7, .inl (cI, 1445, .inl z0))]) := hD
  refine lv_aload_n hx hb dX6_init_31 rfl (lv_at hl 0 rfl) ?_
  refine lv_sipush (v := 140) hx hb dX6_init_32 (by decide) ?_
  refine va_newa (atype := .int) (ty := .int) (a0 := (140, .inl z0)) (N' := 140) hx hb (hts (.arrayClass .int) (List.mem_of_getElem? (i := 4) rfl)) rfl hK hP hD hS hA (fun cA => rfl) (by decide) (by decide +kernel) (Nat.le_of_ble_eq_true rfl) (Nat.le_of_ble_eq_true rfl) (Nat.le_of_ble_eq_true rfl) dX6_init_35 (fun q10 cA H11 hK1 hP hD hS => ?_)
  have eA := int_same 0 3 hK rfl hK1 rfl
  rw [eA] at hP hD
  clear eA hK1
  have hP : va_P (dC, dI) vwCl ([(h0, .inr (6, [.int 0, .ref q1, .ref q4, .ref q7, .int 0, .null, .int 0, .int 0, .int 0, .null, .null, .int 0, .int 0, .int 0, .int 0])), (q1, .inl (cI, 289, .inl z0)), (q4, .inl (cI, 289, .inl z0)), (q7, .inl (cI, 1445, .inl z0)), (q10, .inl (cI, 140, .inl z0))]) H11 := hP
  have hD : va_D (va_A [(h0, .inr (6, [.int 0, .null, .null, .null, .int 0, .null, .int 0, .int 0, .int 0, .null, .null, .int 0, .int 0, .int 0, .int 0]))] s.heap.size) ([(h0, .inr (6, [.int 0, .ref q1, .ref q4, .ref q7, .int 0, .null, .int 0, .int 0, .int 0, .null, .null, .int 0, .int 0, .int 0, .int 0])), (q1, .inl (cI, 289, .inl z0)), (q4, .inl (cI, 289, .inl z0)), (q7, .inl (cI, 1445, .inl z0)), (q10, .inl (cI, 140, .inl z0))]) := hD
  refine W.widen (k := 4) (n := 2163) (Nat.le_of_ble_eq_true rfl) (Nat.le_of_ble_eq_true rfl) ?_
  refine va_putF (D := (dC, dI)) (ci := 6) (v := .ref q10) (ty := .array .int) (C := RX6) (T := TX6) (N := 15) hx hb hts hin6 tyX6 tyX6_ok nmX6 hown hK hP hD hS 0 rfl rfl 5 (by decide) (hts (.fieldLink RX6 19 "FeedDeskModel" "text" "[I") (List.mem_of_getElem? (i := 8) rfl)) (fun _ h9 => h9) rfl hin rfl (by decide +kernel) rfl rfl (Nat.le_of_ble_eq_true rfl) dX6_init_37 (fun H12 locs hP hD hS => ?_)
  have hP : va_P (dC, dI) vwCl ([(h0, .inr (6, [.int 0, .ref q1, .ref q4, .ref q7, .int 0, .ref q10, .int 0, .int 0, .int 0, .null, .null, .int 0, .int 0, .int 0, .int 0])), (q1, .inl (cI, 289, .inl z0)), (q4, .inl (cI, 289, .inl z0)), (q7, .inl (cI, 1445, .inl z0)), (q10, .inl (cI, 140, .inl z0))]) H12 := hP
  have hD : va_D (va_A [(h0, .inr (6, [.int 0, .null, .null, .null, .int 0, .null, .int 0, .int 0, .int 0, .null, .null, .int 0, .int 0, .int 0, .int 0]))] s.heap.size) ([(h0, .inr (6, [.int 0, .ref q1, .ref q4, .ref q7, .int 0, .ref q10, .int 0, .int 0, .int 0, .null, .null, .int 0, .int 0, .int 0, .int 0])), (q1, .inl (cI, 289, .inl z0)), (q4, .inl (cI, 289, .inl z0)), (q7, .inl (cI, 1445, .inl z0)), (q10, .inl (cI, 140, .inl z0))]) := hD
  refine lv_aload_n hx hb dX6_init_40 rfl (lv_at hl 0 rfl) ?_
  refine lv_iconst (v := 4) hx hb dX6_init_41 (by decide) ?_
  refine va_newa (atype := .int) (ty := .int) (a0 := (4, .inl z0)) (N' := 4) hx hb (hts (.arrayClass .int) (List.mem_of_getElem? (i := 4) rfl)) rfl hK hP hD hS hA (fun cA => rfl) (by decide) (by decide +kernel) (Nat.le_of_ble_eq_true rfl) (Nat.le_of_ble_eq_true rfl) (Nat.le_of_ble_eq_true rfl) dX6_init_42 (fun q13 cA H14 hK1 hP hD hS => ?_)
  have eA := int_same 0 3 hK rfl hK1 rfl
  rw [eA] at hP hD
  clear eA hK1
  have hP : va_P (dC, dI) vwCl ([(h0, .inr (6, [.int 0, .ref q1, .ref q4, .ref q7, .int 0, .ref q10, .int 0, .int 0, .int 0, .null, .null, .int 0, .int 0, .int 0, .int 0])), (q1, .inl (cI, 289, .inl z0)), (q4, .inl (cI, 289, .inl z0)), (q7, .inl (cI, 1445, .inl z0)), (q10, .inl (cI, 140, .inl z0)), (q13, .inl (cI, 4, .inl z0))]) H14 := hP
  have hD : va_D (va_A [(h0, .inr (6, [.int 0, .null, .null, .null, .int 0, .null, .int 0, .int 0, .int 0, .null, .null, .int 0, .int 0, .int 0, .int 0]))] s.heap.size) ([(h0, .inr (6, [.int 0, .ref q1, .ref q4, .ref q7, .int 0, .ref q10, .int 0, .int 0, .int 0, .null, .null, .int 0, .int 0, .int 0, .int 0])), (q1, .inl (cI, 289, .inl z0)), (q4, .inl (cI, 289, .inl z0)), (q7, .inl (cI, 1445, .inl z0)), (q10, .inl (cI, 140, .inl z0)), (q13, .inl (cI, 4, .inl z0))]) := hD
  refine W.widen (k := 5) (n := 2167) (Nat.le_of_ble_eq_true rfl) (Nat.le_of_ble_eq_true rfl) ?_
  refine va_putF (D := (dC, dI)) (ci := 6) (v := .ref q13) (ty := .array .int) (C := RX6) (T := TX6) (N := 15) hx hb hts hin6 tyX6 tyX6_ok nmX6 hown hK hP hD hS 0 rfl rfl 9 (by decide) (hts (.fieldLink RX6 22 "FeedDeskModel" "way" "[I") (List.mem_of_getElem? (i := 9) rfl)) (fun _ h9 => h9) rfl hin rfl (by decide +kernel) rfl rfl (Nat.le_of_ble_eq_true rfl) dX6_init_44 (fun H15 locs hP hD hS => ?_)
  have hP : va_P (dC, dI) vwCl ([(h0, .inr (6, [.int 0, .ref q1, .ref q4, .ref q7, .int 0, .ref q10, .int 0, .int 0, .int 0, .ref q13, .null, .int 0, .int 0, .int 0, .int 0])), (q1, .inl (cI, 289, .inl z0)), (q4, .inl (cI, 289, .inl z0)), (q7, .inl (cI, 1445, .inl z0)), (q10, .inl (cI, 140, .inl z0)), (q13, .inl (cI, 4, .inl z0))]) H15 := hP
  have hD : va_D (va_A [(h0, .inr (6, [.int 0, .null, .null, .null, .int 0, .null, .int 0, .int 0, .int 0, .null, .null, .int 0, .int 0, .int 0, .int 0]))] s.heap.size) ([(h0, .inr (6, [.int 0, .ref q1, .ref q4, .ref q7, .int 0, .ref q10, .int 0, .int 0, .int 0, .ref q13, .null, .int 0, .int 0, .int 0, .int 0])), (q1, .inl (cI, 289, .inl z0)), (q4, .inl (cI, 289, .inl z0)), (q7, .inl (cI, 1445, .inl z0)), (q10, .inl (cI, 140, .inl z0)), (q13, .inl (cI, 4, .inl z0))]) := hD
  refine lv_aload_n hx hb dX6_init_47 rfl (lv_at hl 0 rfl) ?_
  refine lv_iconst (v := 4) hx hb dX6_init_48 (by decide) ?_
  refine va_newa (atype := .int) (ty := .int) (a0 := (4, .inl z0)) (N' := 4) hx hb (hts (.arrayClass .int) (List.mem_of_getElem? (i := 4) rfl)) rfl hK hP hD hS hA (fun cA => rfl) (by decide) (by decide +kernel) (Nat.le_of_ble_eq_true rfl) (Nat.le_of_ble_eq_true rfl) (Nat.le_of_ble_eq_true rfl) dX6_init_49 (fun q16 cA H17 hK1 hP hD hS => ?_)
  have eA := int_same 0 3 hK rfl hK1 rfl
  rw [eA] at hP hD
  clear eA hK1
  have hP : va_P (dC, dI) vwCl ([(h0, .inr (6, [.int 0, .ref q1, .ref q4, .ref q7, .int 0, .ref q10, .int 0, .int 0, .int 0, .ref q13, .null, .int 0, .int 0, .int 0, .int 0])), (q1, .inl (cI, 289, .inl z0)), (q4, .inl (cI, 289, .inl z0)), (q7, .inl (cI, 1445, .inl z0)), (q10, .inl (cI, 140, .inl z0)), (q13, .inl (cI, 4, .inl z0)), (q16, .inl (cI, 4, .inl z0))]) H17 := hP
  have hD : va_D (va_A [(h0, .inr (6, [.int 0, .null, .null, .null, .int 0, .null, .int 0, .int 0, .int 0, .null, .null, .int 0, .int 0, .int 0, .int 0]))] s.heap.size) ([(h0, .inr (6, [.int 0, .ref q1, .ref q4, .ref q7, .int 0, .ref q10, .int 0, .int 0, .int 0, .ref q13, .null, .int 0, .int 0, .int 0, .int 0])), (q1, .inl (cI, 289, .inl z0)), (q4, .inl (cI, 289, .inl z0)), (q7, .inl (cI, 1445, .inl z0)), (q10, .inl (cI, 140, .inl z0)), (q13, .inl (cI, 4, .inl z0)), (q16, .inl (cI, 4, .inl z0))]) := hD
  refine W.widen (k := 6) (n := 2171) (Nat.le_of_ble_eq_true rfl) (Nat.le_of_ble_eq_true rfl) ?_
  refine va_putF (D := (dC, dI)) (ci := 6) (v := .ref q16) (ty := .array .int) (C := RX6) (T := TX6) (N := 15) hx hb hts hin6 tyX6 tyX6_ok nmX6 hown hK hP hD hS 0 rfl rfl 10 (by decide) (hts (.fieldLink RX6 25 "FeedDeskModel" "best" "[I") (List.mem_of_getElem? (i := 10) rfl)) (fun _ h9 => h9) rfl hin rfl (by decide +kernel) rfl rfl (Nat.le_of_ble_eq_true rfl) dX6_init_51 (fun H18 locs hP hD hS => ?_)
  have hP : va_P (dC, dI) vwCl ([(h0, .inr (6, [.int 0, .ref q1, .ref q4, .ref q7, .int 0, .ref q10, .int 0, .int 0, .int 0, .ref q13, .ref q16, .int 0, .int 0, .int 0, .int 0])), (q1, .inl (cI, 289, .inl z0)), (q4, .inl (cI, 289, .inl z0)), (q7, .inl (cI, 1445, .inl z0)), (q10, .inl (cI, 140, .inl z0)), (q13, .inl (cI, 4, .inl z0)), (q16, .inl (cI, 4, .inl z0))]) H18 := hP
  have hD : va_D (va_A [(h0, .inr (6, [.int 0, .null, .null, .null, .int 0, .null, .int 0, .int 0, .int 0, .null, .null, .int 0, .int 0, .int 0, .int 0]))] s.heap.size) ([(h0, .inr (6, [.int 0, .ref q1, .ref q4, .ref q7, .int 0, .ref q10, .int 0, .int 0, .int 0, .ref q13, .ref q16, .int 0, .int 0, .int 0, .int 0])), (q1, .inl (cI, 289, .inl z0)), (q4, .inl (cI, 289, .inl z0)), (q7, .inl (cI, 1445, .inl z0)), (q10, .inl (cI, 140, .inl z0)), (q13, .inl (cI, 4, .inl z0)), (q16, .inl (cI, 4, .inl z0))]) := hD
  refine lv_aload_n hx hb dX6_init_54 rfl (lv_at hl 0 rfl) ?_
  refine lv_iconst (v := 0) hx hb dX6_init_55 (by decide) ?_
  refine va_put (D := (dC, dI)) (ci := 6) (v := .int 0) (ty := .int) (C := RX6) (T := TX6) (N := 15) hx hb hts hin6 tyX6 tyX6_ok nmX6 hown hK hP hD hS 0 rfl rfl 0 (by decide) (hts (.fieldLink RX6 28 "FeedDeskModel" "thrown" "I") (List.mem_of_getElem? (i := 11) rfl)) (fun _ h9 => h9) rfl (by decide +kernel) rfl rfl (Nat.le_of_ble_eq_true rfl) dX6_init_56 (fun H19 locs hP hD hS => ?_)
  have hP : va_P (dC, dI) vwCl ([(h0, .inr (6, [.int 0, .ref q1, .ref q4, .ref q7, .int 0, .ref q10, .int 0, .int 0, .int 0, .ref q13, .ref q16, .int 0, .int 0, .int 0, .int 0])), (q1, .inl (cI, 289, .inl z0)), (q4, .inl (cI, 289, .inl z0)), (q7, .inl (cI, 1445, .inl z0)), (q10, .inl (cI, 140, .inl z0)), (q13, .inl (cI, 4, .inl z0)), (q16, .inl (cI, 4, .inl z0))]) H19 := hP
  have hD : va_D (va_A [(h0, .inr (6, [.int 0, .null, .null, .null, .int 0, .null, .int 0, .int 0, .int 0, .null, .null, .int 0, .int 0, .int 0, .int 0]))] s.heap.size) ([(h0, .inr (6, [.int 0, .ref q1, .ref q4, .ref q7, .int 0, .ref q10, .int 0, .int 0, .int 0, .ref q13, .ref q16, .int 0, .int 0, .int 0, .int 0])), (q1, .inl (cI, 289, .inl z0)), (q4, .inl (cI, 289, .inl z0)), (q7, .inl (cI, 1445, .inl z0)), (q10, .inl (cI, 140, .inl z0)), (q13, .inl (cI, 4, .inl z0)), (q16, .inl (cI, 4, .inl z0))]) := hD
  refine lv_iconst (v := 0) hx hb dX6_init_59 (by decide) ?_
  refine lv_istore_n (lv' := [(1, .int 0), (0, .ref h0)]) hx hb dX6_init_60 rfl hl (by decide) rfl (fun ls hl => ?_)
  refine lv_iload_n hx hb dX6_init_61 rfl (lv_at hl 0 rfl) ?_
  refine lv_iconst (v := 4) hx hb dX6_init_62 (by decide) ?_
  refine lv_icmp_ge (tgt := 93) hx hb dX6_init_63 (by decide) (fun c20 => absurd c20 (by decide)) (fun c20 => ?_)
  refine lv_aload_n hx hb dX6_init_66 rfl (lv_at hl 1 rfl) ?_
  refine va_get (D := (dC, dI)) (ci := 6) (v := .ref q1) (C := RX6) (T := TX6) (N := 15) hx hb hts hin6 hown hK hP 0 rfl rfl 1 (by decide) (hts (.fieldLink RX6 7 "FeedDeskModel" "s" "[I") (List.mem_of_getElem? (i := 5) rfl)) (fun _ h9 => h9) rfl dX6_init_67 ?_
  refine lv_bipush (v := 72) hx hb dX6_init_70 (by decide) ?_
  refine lv_iload_n hx hb dX6_init_72 rfl (lv_at hl 0 rfl) ?_
  refine lv_iadd hx hb dX6_init_73 ?_
  rw [show (72 : Int32) + (0 : Int32) = (72 : Int32) from by decide]
  refine lv_bipush (v := 100) hx hb dX6_init_74 (by decide) ?_
  refine va_iast (f := z0) hx hb hK hP hD hS 1 0 rfl rfl (vp_of_B (by decide +kernel)) dX6_init_76 (fun H21 locs hP hD hS => ?_)
  have hP : va_P (dC, dI) vwCl ([(h0, .inr (6, [.int 0, .ref q1, .ref q4, .ref q7, .int 0, .ref q10, .int 0, .int 0, .int 0, .ref q13, .ref q16, .int 0, .int 0, .int 0, .int 0])), (q1, .inl (cI, 289, .inl (upd z0 72 100))), (q4, .inl (cI, 289, .inl z0)), (q7, .inl (cI, 1445, .inl z0)), (q10, .inl (cI, 140, .inl z0)), (q13, .inl (cI, 4, .inl z0)), (q16, .inl (cI, 4, .inl z0))]) H21 := hP
  have hD : va_D (va_A [(h0, .inr (6, [.int 0, .null, .null, .null, .int 0, .null, .int 0, .int 0, .int 0, .null, .null, .int 0, .int 0, .int 0, .int 0]))] s.heap.size) ([(h0, .inr (6, [.int 0, .ref q1, .ref q4, .ref q7, .int 0, .ref q10, .int 0, .int 0, .int 0, .ref q13, .ref q16, .int 0, .int 0, .int 0, .int 0])), (q1, .inl (cI, 289, .inl (upd z0 72 100))), (q4, .inl (cI, 289, .inl z0)), (q7, .inl (cI, 1445, .inl z0)), (q10, .inl (cI, 140, .inl z0)), (q13, .inl (cI, 4, .inl z0)), (q16, .inl (cI, 4, .inl z0))]) := hD
  refine lv_aload_n hx hb dX6_init_77 rfl (lv_at hl 1 rfl) ?_
  refine va_get (D := (dC, dI)) (ci := 6) (v := .ref q1) (C := RX6) (T := TX6) (N := 15) hx hb hts hin6 hown hK hP 0 rfl rfl 1 (by decide) (hts (.fieldLink RX6 7 "FeedDeskModel" "s" "[I") (List.mem_of_getElem? (i := 5) rfl)) (fun _ h9 => h9) rfl dX6_init_78 ?_
  refine lv_bipush (v := 84) hx hb dX6_init_81 (by decide) ?_
  refine lv_iload_n hx hb dX6_init_83 rfl (lv_at hl 0 rfl) ?_
  refine lv_iadd hx hb dX6_init_84 ?_
  rw [show (84 : Int32) + (0 : Int32) = (84 : Int32) from by decide]
  refine lv_iconst (v := (-1)) hx hb dX6_init_85 (by decide) ?_
  refine va_iast (f := upd z0 72 100) hx hb hK hP hD hS 1 0 rfl rfl (vp_of_B (by decide +kernel)) dX6_init_86 (fun H22 locs hP hD hS => ?_)
  have hP : va_P (dC, dI) vwCl ([(h0, .inr (6, [.int 0, .ref q1, .ref q4, .ref q7, .int 0, .ref q10, .int 0, .int 0, .int 0, .ref q13, .ref q16, .int 0, .int 0, .int 0, .int 0])), (q1, .inl (cI, 289, .inl (upd (upd z0 72 100) 84 (-1)))), (q4, .inl (cI, 289, .inl z0)), (q7, .inl (cI, 1445, .inl z0)), (q10, .inl (cI, 140, .inl z0)), (q13, .inl (cI, 4, .inl z0)), (q16, .inl (cI, 4, .inl z0))]) H22 := hP
  have hD : va_D (va_A [(h0, .inr (6, [.int 0, .null, .null, .null, .int 0, .null, .int 0, .int 0, .int 0, .null, .null, .int 0, .int 0, .int 0, .int 0]))] s.heap.size) ([(h0, .inr (6, [.int 0, .ref q1, .ref q4, .ref q7, .int 0, .ref q10, .int 0, .int 0, .int 0, .ref q13, .ref q16, .int 0, .int 0, .int 0, .int 0])), (q1, .inl (cI, 289, .inl (upd (upd z0 72 100) 84 (-1)))), (q4, .inl (cI, 289, .inl z0)), (q7, .inl (cI, 1445, .inl z0)), (q10, .inl (cI, 140, .inl z0)), (q13, .inl (cI, 4, .inl z0)), (q16, .inl (cI, 4, .inl z0))]) := hD
  refine lv_iinc (v := 1) (lv' := [(1, .int 1), (0, .ref h0)]) hx hb dX6_init_87 hl (k := 0) rfl (by decide) (by decide) rfl (fun ls hl => ?_)
  refine lv_goto (tgt := 61) hx hb dX6_init_90 (by decide) ?_
  refine lv_iload_n hx hb dX6_init_61 rfl (lv_at hl 0 rfl) ?_
  refine lv_iconst (v := 4) hx hb dX6_init_62 (by decide) ?_
  refine lv_icmp_ge (tgt := 93) hx hb dX6_init_63 (by decide) (fun c23 => absurd c23 (by decide)) (fun c23 => ?_)
  refine lv_aload_n hx hb dX6_init_66 rfl (lv_at hl 1 rfl) ?_
  refine va_get (D := (dC, dI)) (ci := 6) (v := .ref q1) (C := RX6) (T := TX6) (N := 15) hx hb hts hin6 hown hK hP 0 rfl rfl 1 (by decide) (hts (.fieldLink RX6 7 "FeedDeskModel" "s" "[I") (List.mem_of_getElem? (i := 5) rfl)) (fun _ h9 => h9) rfl dX6_init_67 ?_
  refine lv_bipush (v := 72) hx hb dX6_init_70 (by decide) ?_
  refine lv_iload_n hx hb dX6_init_72 rfl (lv_at hl 0 rfl) ?_
  refine lv_iadd hx hb dX6_init_73 ?_
  rw [show (72 : Int32) + (1 : Int32) = (73 : Int32) from by decide]
  refine lv_bipush (v := 100) hx hb dX6_init_74 (by decide) ?_
  refine va_iast (f := upd (upd z0 72 100) 84 (-1)) hx hb hK hP hD hS 1 0 rfl rfl (vp_of_B (by decide +kernel)) dX6_init_76 (fun H24 locs hP hD hS => ?_)
  have hP : va_P (dC, dI) vwCl ([(h0, .inr (6, [.int 0, .ref q1, .ref q4, .ref q7, .int 0, .ref q10, .int 0, .int 0, .int 0, .ref q13, .ref q16, .int 0, .int 0, .int 0, .int 0])), (q1, .inl (cI, 289, .inl (upd (upd (upd z0 72 100) 84 (-1)) 73 100))), (q4, .inl (cI, 289, .inl z0)), (q7, .inl (cI, 1445, .inl z0)), (q10, .inl (cI, 140, .inl z0)), (q13, .inl (cI, 4, .inl z0)), (q16, .inl (cI, 4, .inl z0))]) H24 := hP
  have hD : va_D (va_A [(h0, .inr (6, [.int 0, .null, .null, .null, .int 0, .null, .int 0, .int 0, .int 0, .null, .null, .int 0, .int 0, .int 0, .int 0]))] s.heap.size) ([(h0, .inr (6, [.int 0, .ref q1, .ref q4, .ref q7, .int 0, .ref q10, .int 0, .int 0, .int 0, .ref q13, .ref q16, .int 0, .int 0, .int 0, .int 0])), (q1, .inl (cI, 289, .inl (upd (upd (upd z0 72 100) 84 (-1)) 73 100))), (q4, .inl (cI, 289, .inl z0)), (q7, .inl (cI, 1445, .inl z0)), (q10, .inl (cI, 140, .inl z0)), (q13, .inl (cI, 4, .inl z0)), (q16, .inl (cI, 4, .inl z0))]) := hD
  refine lv_aload_n hx hb dX6_init_77 rfl (lv_at hl 1 rfl) ?_
  refine va_get (D := (dC, dI)) (ci := 6) (v := .ref q1) (C := RX6) (T := TX6) (N := 15) hx hb hts hin6 hown hK hP 0 rfl rfl 1 (by decide) (hts (.fieldLink RX6 7 "FeedDeskModel" "s" "[I") (List.mem_of_getElem? (i := 5) rfl)) (fun _ h9 => h9) rfl dX6_init_78 ?_
  refine lv_bipush (v := 84) hx hb dX6_init_81 (by decide) ?_
  refine lv_iload_n hx hb dX6_init_83 rfl (lv_at hl 0 rfl) ?_
  refine lv_iadd hx hb dX6_init_84 ?_
  rw [show (84 : Int32) + (1 : Int32) = (85 : Int32) from by decide]
  refine lv_iconst (v := (-1)) hx hb dX6_init_85 (by decide) ?_
  refine va_iast (f := upd (upd (upd z0 72 100) 84 (-1)) 73 100) hx hb hK hP hD hS 1 0 rfl rfl (vp_of_B (by decide +kernel)) dX6_init_86 (fun H25 locs hP hD hS => ?_)
  have hP : va_P (dC, dI) vwCl ([(h0, .inr (6, [.int 0, .ref q1, .ref q4, .ref q7, .int 0, .ref q10, .int 0, .int 0, .int 0, .ref q13, .ref q16, .int 0, .int 0, .int 0, .int 0])), (q1, .inl (cI, 289, .inl (upd (upd (upd (upd z0 72 100) 84 (-1)) 73 100) 85 (-1)))), (q4, .inl (cI, 289, .inl z0)), (q7, .inl (cI, 1445, .inl z0)), (q10, .inl (cI, 140, .inl z0)), (q13, .inl (cI, 4, .inl z0)), (q16, .inl (cI, 4, .inl z0))]) H25 := hP
  have hD : va_D (va_A [(h0, .inr (6, [.int 0, .null, .null, .null, .int 0, .null, .int 0, .int 0, .int 0, .null, .null, .int 0, .int 0, .int 0, .int 0]))] s.heap.size) ([(h0, .inr (6, [.int 0, .ref q1, .ref q4, .ref q7, .int 0, .ref q10, .int 0, .int 0, .int 0, .ref q13, .ref q16, .int 0, .int 0, .int 0, .int 0])), (q1, .inl (cI, 289, .inl (upd (upd (upd (upd z0 72 100) 84 (-1)) 73 100) 85 (-1)))), (q4, .inl (cI, 289, .inl z0)), (q7, .inl (cI, 1445, .inl z0)), (q10, .inl (cI, 140, .inl z0)), (q13, .inl (cI, 4, .inl z0)), (q16, .inl (cI, 4, .inl z0))]) := hD
  refine lv_iinc (v := 2) (lv' := [(1, .int 2), (0, .ref h0)]) hx hb dX6_init_87 hl (k := 0) rfl (by decide) (by decide) rfl (fun ls hl => ?_)
  refine lv_goto (tgt := 61) hx hb dX6_init_90 (by decide) ?_
  refine lv_iload_n hx hb dX6_init_61 rfl (lv_at hl 0 rfl) ?_
  refine lv_iconst (v := 4) hx hb dX6_init_62 (by decide) ?_
  refine lv_icmp_ge (tgt := 93) hx hb dX6_init_63 (by decide) (fun c26 => absurd c26 (by decide)) (fun c26 => ?_)
  refine lv_aload_n hx hb dX6_init_66 rfl (lv_at hl 1 rfl) ?_
  refine va_get (D := (dC, dI)) (ci := 6) (v := .ref q1) (C := RX6) (T := TX6) (N := 15) hx hb hts hin6 hown hK hP 0 rfl rfl 1 (by decide) (hts (.fieldLink RX6 7 "FeedDeskModel" "s" "[I") (List.mem_of_getElem? (i := 5) rfl)) (fun _ h9 => h9) rfl dX6_init_67 ?_
  refine lv_bipush (v := 72) hx hb dX6_init_70 (by decide) ?_
  refine lv_iload_n hx hb dX6_init_72 rfl (lv_at hl 0 rfl) ?_
  refine lv_iadd hx hb dX6_init_73 ?_
  rw [show (72 : Int32) + (2 : Int32) = (74 : Int32) from by decide]
  refine lv_bipush (v := 100) hx hb dX6_init_74 (by decide) ?_
  refine va_iast (f := upd (upd (upd (upd z0 72 100) 84 (-1)) 73 100) 85 (-1)) hx hb hK hP hD hS 1 0 rfl rfl (vp_of_B (by decide +kernel)) dX6_init_76 (fun H27 locs hP hD hS => ?_)
  have hP : va_P (dC, dI) vwCl ([(h0, .inr (6, [.int 0, .ref q1, .ref q4, .ref q7, .int 0, .ref q10, .int 0, .int 0, .int 0, .ref q13, .ref q16, .int 0, .int 0, .int 0, .int 0])), (q1, .inl (cI, 289, .inl (upd (upd (upd (upd (upd z0 72 100) 84 (-1)) 73 100) 85 (-1)) 74 100))), (q4, .inl (cI, 289, .inl z0)), (q7, .inl (cI, 1445, .inl z0)), (q10, .inl (cI, 140, .inl z0)), (q13, .inl (cI, 4, .inl z0)), (q16, .inl (cI, 4, .inl z0))]) H27 := hP
  have hD : va_D (va_A [(h0, .inr (6, [.int 0, .null, .null, .null, .int 0, .null, .int 0, .int 0, .int 0, .null, .null, .int 0, .int 0, .int 0, .int 0]))] s.heap.size) ([(h0, .inr (6, [.int 0, .ref q1, .ref q4, .ref q7, .int 0, .ref q10, .int 0, .int 0, .int 0, .ref q13, .ref q16, .int 0, .int 0, .int 0, .int 0])), (q1, .inl (cI, 289, .inl (upd (upd (upd (upd (upd z0 72 100) 84 (-1)) 73 100) 85 (-1)) 74 100))), (q4, .inl (cI, 289, .inl z0)), (q7, .inl (cI, 1445, .inl z0)), (q10, .inl (cI, 140, .inl z0)), (q13, .inl (cI, 4, .inl z0)), (q16, .inl (cI, 4, .inl z0))]) := hD
  refine lv_aload_n hx hb dX6_init_77 rfl (lv_at hl 1 rfl) ?_
  refine va_get (D := (dC, dI)) (ci := 6) (v := .ref q1) (C := RX6) (T := TX6) (N := 15) hx hb hts hin6 hown hK hP 0 rfl rfl 1 (by decide) (hts (.fieldLink RX6 7 "FeedDeskModel" "s" "[I") (List.mem_of_getElem? (i := 5) rfl)) (fun _ h9 => h9) rfl dX6_init_78 ?_
  refine lv_bipush (v := 84) hx hb dX6_init_81 (by decide) ?_
  refine lv_iload_n hx hb dX6_init_83 rfl (lv_at hl 0 rfl) ?_
  refine lv_iadd hx hb dX6_init_84 ?_
  rw [show (84 : Int32) + (2 : Int32) = (86 : Int32) from by decide]
  refine lv_iconst (v := (-1)) hx hb dX6_init_85 (by decide) ?_
  refine va_iast (f := upd (upd (upd (upd (upd z0 72 100) 84 (-1)) 73 100) 85 (-1)) 74 100) hx hb hK hP hD hS 1 0 rfl rfl (vp_of_B (by decide +kernel)) dX6_init_86 (fun H28 locs hP hD hS => ?_)
  have hP : va_P (dC, dI) vwCl ([(h0, .inr (6, [.int 0, .ref q1, .ref q4, .ref q7, .int 0, .ref q10, .int 0, .int 0, .int 0, .ref q13, .ref q16, .int 0, .int 0, .int 0, .int 0])), (q1, .inl (cI, 289, .inl (upd (upd (upd (upd (upd (upd z0 72 100) 84 (-1)) 73 100) 85 (-1)) 74 100) 86 (-1)))), (q4, .inl (cI, 289, .inl z0)), (q7, .inl (cI, 1445, .inl z0)), (q10, .inl (cI, 140, .inl z0)), (q13, .inl (cI, 4, .inl z0)), (q16, .inl (cI, 4, .inl z0))]) H28 := hP
  have hD : va_D (va_A [(h0, .inr (6, [.int 0, .null, .null, .null, .int 0, .null, .int 0, .int 0, .int 0, .null, .null, .int 0, .int 0, .int 0, .int 0]))] s.heap.size) ([(h0, .inr (6, [.int 0, .ref q1, .ref q4, .ref q7, .int 0, .ref q10, .int 0, .int 0, .int 0, .ref q13, .ref q16, .int 0, .int 0, .int 0, .int 0])), (q1, .inl (cI, 289, .inl (upd (upd (upd (upd (upd (upd z0 72 100) 84 (-1)) 73 100) 85 (-1)) 74 100) 86 (-1)))), (q4, .inl (cI, 289, .inl z0)), (q7, .inl (cI, 1445, .inl z0)), (q10, .inl (cI, 140, .inl z0)), (q13, .inl (cI, 4, .inl z0)), (q16, .inl (cI, 4, .inl z0))]) := hD
  refine lv_iinc (v := 3) (lv' := [(1, .int 3), (0, .ref h0)]) hx hb dX6_init_87 hl (k := 0) rfl (by decide) (by decide) rfl (fun ls hl => ?_)
  refine lv_goto (tgt := 61) hx hb dX6_init_90 (by decide) ?_
  refine lv_iload_n hx hb dX6_init_61 rfl (lv_at hl 0 rfl) ?_
  refine lv_iconst (v := 4) hx hb dX6_init_62 (by decide) ?_
  refine lv_icmp_ge (tgt := 93) hx hb dX6_init_63 (by decide) (fun c29 => absurd c29 (by decide)) (fun c29 => ?_)
  refine lv_aload_n hx hb dX6_init_66 rfl (lv_at hl 1 rfl) ?_
  refine va_get (D := (dC, dI)) (ci := 6) (v := .ref q1) (C := RX6) (T := TX6) (N := 15) hx hb hts hin6 hown hK hP 0 rfl rfl 1 (by decide) (hts (.fieldLink RX6 7 "FeedDeskModel" "s" "[I") (List.mem_of_getElem? (i := 5) rfl)) (fun _ h9 => h9) rfl dX6_init_67 ?_
  refine lv_bipush (v := 72) hx hb dX6_init_70 (by decide) ?_
  refine lv_iload_n hx hb dX6_init_72 rfl (lv_at hl 0 rfl) ?_
  refine lv_iadd hx hb dX6_init_73 ?_
  rw [show (72 : Int32) + (3 : Int32) = (75 : Int32) from by decide]
  refine lv_bipush (v := 100) hx hb dX6_init_74 (by decide) ?_
  refine va_iast (f := upd (upd (upd (upd (upd (upd z0 72 100) 84 (-1)) 73 100) 85 (-1)) 74 100) 86 (-1)) hx hb hK hP hD hS 1 0 rfl rfl (vp_of_B (by decide +kernel)) dX6_init_76 (fun H30 locs hP hD hS => ?_)
  have hP : va_P (dC, dI) vwCl ([(h0, .inr (6, [.int 0, .ref q1, .ref q4, .ref q7, .int 0, .ref q10, .int 0, .int 0, .int 0, .ref q13, .ref q16, .int 0, .int 0, .int 0, .int 0])), (q1, .inl (cI, 289, .inl (upd (upd (upd (upd (upd (upd (upd z0 72 100) 84 (-1)) 73 100) 85 (-1)) 74 100) 86 (-1)) 75 100))), (q4, .inl (cI, 289, .inl z0)), (q7, .inl (cI, 1445, .inl z0)), (q10, .inl (cI, 140, .inl z0)), (q13, .inl (cI, 4, .inl z0)), (q16, .inl (cI, 4, .inl z0))]) H30 := hP
  have hD : va_D (va_A [(h0, .inr (6, [.int 0, .null, .null, .null, .int 0, .null, .int 0, .int 0, .int 0, .null, .null, .int 0, .int 0, .int 0, .int 0]))] s.heap.size) ([(h0, .inr (6, [.int 0, .ref q1, .ref q4, .ref q7, .int 0, .ref q10, .int 0, .int 0, .int 0, .ref q13, .ref q16, .int 0, .int 0, .int 0, .int 0])), (q1, .inl (cI, 289, .inl (upd (upd (upd (upd (upd (upd (upd z0 72 100) 84 (-1)) 73 100) 85 (-1)) 74 100) 86 (-1)) 75 100))), (q4, .inl (cI, 289, .inl z0)), (q7, .inl (cI, 1445, .inl z0)), (q10, .inl (cI, 140, .inl z0)), (q13, .inl (cI, 4, .inl z0)), (q16, .inl (cI, 4, .inl z0))]) := hD
  refine lv_aload_n hx hb dX6_init_77 rfl (lv_at hl 1 rfl) ?_
  refine va_get (D := (dC, dI)) (ci := 6) (v := .ref q1) (C := RX6) (T := TX6) (N := 15) hx hb hts hin6 hown hK hP 0 rfl rfl 1 (by decide) (hts (.fieldLink RX6 7 "FeedDeskModel" "s" "[I") (List.mem_of_getElem? (i := 5) rfl)) (fun _ h9 => h9) rfl dX6_init_78 ?_
  refine lv_bipush (v := 84) hx hb dX6_init_81 (by decide) ?_
  refine lv_iload_n hx hb dX6_init_83 rfl (lv_at hl 0 rfl) ?_
  refine lv_iadd hx hb dX6_init_84 ?_
  rw [show (84 : Int32) + (3 : Int32) = (87 : Int32) from by decide]
  refine lv_iconst (v := (-1)) hx hb dX6_init_85 (by decide) ?_
  refine va_iast (f := upd (upd (upd (upd (upd (upd (upd z0 72 100) 84 (-1)) 73 100) 85 (-1)) 74 100) 86 (-1)) 75 100) hx hb hK hP hD hS 1 0 rfl rfl (vp_of_B (by decide +kernel)) dX6_init_86 (fun H31 locs hP hD hS => ?_)
  have hP : va_P (dC, dI) vwCl ([(h0, .inr (6, [.int 0, .ref q1, .ref q4, .ref q7, .int 0, .ref q10, .int 0, .int 0, .int 0, .ref q13, .ref q16, .int 0, .int 0, .int 0, .int 0])), (q1, .inl (cI, 289, .inl (upd (upd (upd (upd (upd (upd (upd (upd z0 72 100) 84 (-1)) 73 100) 85 (-1)) 74 100) 86 (-1)) 75 100) 87 (-1)))), (q4, .inl (cI, 289, .inl z0)), (q7, .inl (cI, 1445, .inl z0)), (q10, .inl (cI, 140, .inl z0)), (q13, .inl (cI, 4, .inl z0)), (q16, .inl (cI, 4, .inl z0))]) H31 := hP
  have hD : va_D (va_A [(h0, .inr (6, [.int 0, .null, .null, .null, .int 0, .null, .int 0, .int 0, .int 0, .null, .null, .int 0, .int 0, .int 0, .int 0]))] s.heap.size) ([(h0, .inr (6, [.int 0, .ref q1, .ref q4, .ref q7, .int 0, .ref q10, .int 0, .int 0, .int 0, .ref q13, .ref q16, .int 0, .int 0, .int 0, .int 0])), (q1, .inl (cI, 289, .inl (upd (upd (upd (upd (upd (upd (upd (upd z0 72 100) 84 (-1)) 73 100) 85 (-1)) 74 100) 86 (-1)) 75 100) 87 (-1)))), (q4, .inl (cI, 289, .inl z0)), (q7, .inl (cI, 1445, .inl z0)), (q10, .inl (cI, 140, .inl z0)), (q13, .inl (cI, 4, .inl z0)), (q16, .inl (cI, 4, .inl z0))]) := hD
  refine lv_iinc (v := 4) (lv' := [(1, .int 4), (0, .ref h0)]) hx hb dX6_init_87 hl (k := 0) rfl (by decide) (by decide) rfl (fun ls hl => ?_)
  refine lv_goto (tgt := 61) hx hb dX6_init_90 (by decide) ?_
  refine lv_iload_n hx hb dX6_init_61 rfl (lv_at hl 0 rfl) ?_
  refine lv_iconst (v := 4) hx hb dX6_init_62 (by decide) ?_
  refine lv_icmp_ge (tgt := 93) hx hb dX6_init_63 (by decide) (fun c32 => ?_) (fun c32 => absurd (by decide) c32)
  refine lv_aload_n hx hb dX6_init_93 rfl (lv_at hl 1 rfl) ?_
  refine va_get (D := (dC, dI)) (ci := 6) (v := .ref q1) (C := RX6) (T := TX6) (N := 15) hx hb hts hin6 hown hK hP 0 rfl rfl 1 (by decide) (hts (.fieldLink RX6 7 "FeedDeskModel" "s" "[I") (List.mem_of_getElem? (i := 5) rfl)) (fun _ h9 => h9) rfl dX6_init_94 ?_
  refine lv_sipush (v := 144) hx hb dX6_init_97 (by decide) ?_
  refine lv_iconst (v := (-1)) hx hb dX6_init_100 (by decide) ?_
  refine va_iast (f := upd (upd (upd (upd (upd (upd (upd (upd z0 72 100) 84 (-1)) 73 100) 85 (-1)) 74 100) 86 (-1)) 75 100) 87 (-1)) hx hb hK hP hD hS 1 0 rfl rfl (vp_of_B (by decide +kernel)) dX6_init_101 (fun H33 locs hP hD hS => ?_)
  have hP : va_P (dC, dI) vwCl ([(h0, .inr (6, [.int 0, .ref q1, .ref q4, .ref q7, .int 0, .ref q10, .int 0, .int 0, .int 0, .ref q13, .ref q16, .int 0, .int 0, .int 0, .int 0])), (q1, .inl (cI, 289, .inl (upd (upd (upd (upd (upd (upd (upd (upd (upd z0 72 100) 84 (-1)) 73 100) 85 (-1)) 74 100) 86 (-1)) 75 100) 87 (-1)) 144 (-1)))), (q4, .inl (cI, 289, .inl z0)), (q7, .inl (cI, 1445, .inl z0)), (q10, .inl (cI, 140, .inl z0)), (q13, .inl (cI, 4, .inl z0)), (q16, .inl (cI, 4, .inl z0))]) H33 := hP
  have hD : va_D (va_A [(h0, .inr (6, [.int 0, .null, .null, .null, .int 0, .null, .int 0, .int 0, .int 0, .null, .null, .int 0, .int 0, .int 0, .int 0]))] s.heap.size) ([(h0, .inr (6, [.int 0, .ref q1, .ref q4, .ref q7, .int 0, .ref q10, .int 0, .int 0, .int 0, .ref q13, .ref q16, .int 0, .int 0, .int 0, .int 0])), (q1, .inl (cI, 289, .inl (upd (upd (upd (upd (upd (upd (upd (upd (upd z0 72 100) 84 (-1)) 73 100) 85 (-1)) 74 100) 86 (-1)) 75 100) 87 (-1)) 144 (-1)))), (q4, .inl (cI, 289, .inl z0)), (q7, .inl (cI, 1445, .inl z0)), (q10, .inl (cI, 140, .inl z0)), (q13, .inl (cI, 4, .inl z0)), (q16, .inl (cI, 4, .inl z0))]) := hD
  have hP9 : va_P (dC, dI) vwCl (cMd (lk [h0, q1, q4, q7, q10, q13, q16] (fun _ => 0)) cI R0) H33 := hP.sub [0, 1, 2, 3, 4, 5, 6] rfl
  have hD9 : va_D (va_A [(h0, .inr (6, [.int 0, .null, .null, .null, .int 0, .null, .int 0, .int 0, .int 0, .null, .null, .int 0, .int 0, .int 0, .int 0]))] s.heap.size) (cMd (lk [h0, q1, q4, q7, q10, q13, q16] (fun _ => 0)) cI R0) := hD.sub [0, 1, 2, 3, 4, 5, 6] (by decide) rfl
  exact W.vret hx hb hr (fun t ht hWw => ⟨⟨lk [h0, q1, q4, q7, q10, q13, q16] (fun _ => 0), rfl, rfl, by rw [ht]; exact hP9, hD9⟩, hS.F ht⟩) hS.2.2 dX6_init_102
