/-! the law's own: its calls of static methods over a world, its script -/
theorem pSS {s : State} {H : Heap} {locs : List Loc} {D : va_G} {tys : List (ClassId × FieldType)} {wc : va_W} {A A0 B : Nat → Prop} {As : List Value} (hK : va_K D vwCl tys s) (hP : va_P D vwCl wc H) (hD : va_D A wc) (hN : ENV s) (hT : STA A0 s s.heap) (hS : va_S A0 s.heap H locs) (hB : ∀ q, B q → A0 q) : PreS s H (PcS D tys wc H.size As B) As :=
  ⟨PcS.blind, fun U hU hW => ⟨rfl, by rw [hU], by rw [hU]; exact hP, va_K.moved hW.alike hK, hD.weaken (fun _ _ _ _ => trivial), hN.warm hW, hT.use hS hB hU hW⟩⟩
def PcX (D : va_G) (tys : List (ClassId × FieldType)) (b L : Nat) (xs : Nat → Int32) (sz : Nat) (av : List Value) (A : Nat → Prop) : Array Value → State → Prop := va_Pc av (fun U => U.heap.size = sz ∧ va_K D vwCl tys U ∧ ENV U ∧ va_T .int b L (fun j => .int (xs j)) A U U.heap)
theorem PcX.blind {D : va_G} {tys : List (ClassId × FieldType)} {b L : Nat} {xs : Nat → Int32} {sz : Nat} {av : List Value} {A : Nat → Prop} : FrameBlind (PcX D tys b L xs sz av A) := by
  intro a U g mk q
  obtain ⟨q0, q1, qK, qN, qS⟩ := q
  exact ⟨q0, q1, va_K.moved (u := U) (U := U.calling g mk a) (Vm.Alike.refl U.vm) qK, ENV.same (u := U) (U := U.calling g mk a) rfl qN, va_T.moved (u := U) (U := U.calling g mk a) (Vm.Alike.refl U.vm) qS⟩
theorem pX {s : State} {H : Heap} {locs : List Loc} {D : va_G} {tys : List (ClassId × FieldType)} {b L : Nat} {xs : Nat → Int32} {A0 B : Nat → Prop} {As : List Value} (hK : va_K D vwCl tys s) (hN : ENV s) (hJ : va_T .int b L (fun j => .int (xs j)) A0 s s.heap) (hS : va_S A0 s.heap H locs) (hB : ∀ q, B q → A0 q) : PreS s H (PcX D tys b L xs H.size As B) As :=
  ⟨PcX.blind, fun U hU hW => ⟨rfl, by rw [hU], va_K.moved hW.alike hK, hN.warm hW, by rw [hU]; exact ((hJ.kept hS.2.1).moved hW.alike).narrow hB⟩⟩
theorem sx_T {b L : Nat} {xs : Nat → Int32} {A : Nat → Prop} {s : State} {H : Heap} (h : va_X b L xs s H) (hA : ¬ A b) (hL : L < 2 ^ 31) : va_T .int b L (fun j => .int (xs j)) A s H := by
  obtain ⟨scr, h1, h2, h3, h4, h5⟩ := h
  exact ⟨scr, h1, h2, h3, by omega, by rw [h4], h5, hA⟩
theorem sx_in {k : Int32} {L n : Nat} (h1 : vp_in k n) (hn : n < 2 ^ 31) (hL : L < 2 ^ 31) (c : ¬ Int32.ofNat L ≤ k) : vp_in k L := by
  obtain ⟨j, hj, rfl⟩ := vp_in_of h1 hn
  have : j < L := lp_ge (x := nI j) rfl (y := Int32.ofNat L) rfl (by omega) hL c
  exact vp_in_nI this (by omega)
def f_L_cell (L : Nat) (xs : Nat → Int32) (p2 : Int32) : Int32 := if Int32.ofNat L ≤ p2 then 7919 * (p2 + 3) * (p2 + 11) else xs p2.toNatClampNeg
abbrev rm_L_cell : Room := { frames := 0, cells := 0, slots := 0, locals := 0 }
set_option maxHeartbeats 4000000 in
set_option maxRecDepth 100000 in
theorem c_L_cell (l : Launch) (dC : Nat → ClassId) (dI : Nat → Nat → Nat) (cI cC cS : ClassId) (b L : Nat) (xs : Nat → Int32) (hL : L < 2 ^ 31) (sz : Nat) (p2 : Int32) (h1 : vp_in p2 18) : Met l yL_cell wsL_cell rm_L_cell (PcX (dC, dI) (tyL cI cC cS) b L xs sz [.ref b, .int p2] (va_A [] sz)) (va_Qi (fun (r : Int32) (_ : Unit) => r = f_L_cell L xs p2) (fun _ _ => True) (va_A [] sz)) 0 0 (va_A [] sz) := by
  refine Met.ofW (cc := cL_cell) (maxL := 2) (ret := (some .int)) (by decide) rfl ?_
  intro p e s m args below meth c s₁ B hml hv
  obtain ⟨rfl, hsz, hK, hN, hJ⟩ := hv
  have hx := B.exec
  have hb := B.bytes
  have hr := B.returns
  have hts := atoms_spec (ws := wsL_cell) B.pre
  have hown : s.vm.findClass RL = some m.cls := findClass_of_methodNamed B.named
  have hlocks := B.notSynchronized
  subst hsz
  have hP : va_P (dC, dI) vwCl [] s.heap := va_P_nil
  have hA : ∀ q : Nat, s.heap.size ≤ q → (va_A [] s.heap.size) q := fun q h => Or.inr h
  have hS : va_S (va_A [] s.heap.size) s.heap s.heap [] := va_S.rf
  have hl := lv_entry [.ref b, .int p2] (n := 2) (Nat.le_of_ble_eq_true rfl)
  rw [lg_entry_eq]
  generalize (lg_sl [.ref b, .int p2] ++ List.replicate (2 - (lg_sl [.ref b, .int p2]).length) Slot.unset).toArray = ls at hl ⊢
  have hl : lv_has ls 2 [(0, .ref b), (1, .int p2)] := hl
  refine lv_iload_n hx hb dL_cell_0 rfl (lv_at hl 1 rfl) ?_
  refine lv_aload_n hx hb dL_cell_1 rfl (lv_at hl 0 rfl) ?_
  refine va_tlen (v := Int32.ofNat L) hx hb hJ hS rfl dL_cell_2 ?_
  refine lv_icmp_ge (tgt := 12) hx hb dL_cell_3 (by decide) (fun c1 => ?_) (fun c1 => ?_)
  · refine lv_sipush (v := 7919) hx hb dL_cell_12 (by decide) ?_
    refine lv_iload_n hx hb dL_cell_15 rfl (lv_at hl 1 rfl) ?_
    refine lv_iconst (v := 3) hx hb dL_cell_16 (by decide) ?_
    refine lv_iadd hx hb dL_cell_17 ?_
    refine lv_imul hx hb dL_cell_18 ?_
    refine lv_iload_n hx hb dL_cell_19 rfl (lv_at hl 1 rfl) ?_
    refine lv_bipush (v := 11) hx hb dL_cell_20 (by decide) ?_
    refine lv_iadd hx hb dL_cell_22 ?_
    refine lv_imul hx hb dL_cell_23 ?_
    exact W.iret (v := (7919 * (p2 + 3)) * (p2 + 11)) hx hb hr (fun t ht hWw => ⟨⟨(7919 * (p2 + 3)) * (p2 + 11), (), rfl, by rw [f_L_cell, if_pos c1], trivial⟩, hS.F ht⟩) hS.2.2 dL_cell_24
  · refine lv_aload_n hx hb dL_cell_6 rfl (lv_at hl 0 rfl) ?_
    refine lv_iload_n hx hb dL_cell_7 rfl (lv_at hl 1 rfl) ?_
    refine va_ti (v := .int (xs p2.toNatClampNeg)) hx hb hJ hS (sx_in h1 (by decide) hL c1) rfl dL_cell_8 ?_
    refine lv_goto (tgt := 24) hx hb dL_cell_9 (by decide) ?_
    exact W.iret (v := xs p2.toNatClampNeg) hx hb hr (fun t ht hWw => ⟨⟨xs p2.toNatClampNeg, (), rfl, by rw [f_L_cell, if_neg c1], trivial⟩, hS.F ht⟩) hS.2.2 dL_cell_24
