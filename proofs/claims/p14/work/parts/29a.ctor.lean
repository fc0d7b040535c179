/-! constructors -/
def lk : List Nat → (Nat → Nat) → Nat → Nat
  | [], f, i => f i
  | x :: _, _, 0 => x
  | _ :: t, f, i + 1 => lk t f i
def jn (n : Nat) (f g : Nat → Nat) (i : Nat) : Nat := if i < n then f i else g (i - n)
def z0 : Nat → Int32 := fun _ => 0
def PcN (D : va_G) (tys : List (ClassId × FieldType)) (ws : va_W) (sz : Nat) (av : List Value) : Array Value → State → Prop := va_Pc av (fun U => U.heap.size = sz ∧ va_P D vwCl ws U.heap ∧ va_K D vwCl tys U ∧ va_D (fun _ => True) ws ∧ ENV U ∧ va_AO RX4 U)
theorem PcN.blind {D : va_G} {tys : List (ClassId × FieldType)} {ws : va_W} {sz : Nat} {av : List Value} : FrameBlind (PcN D tys ws sz av) := by
  intro a U g mk q
  obtain ⟨q0, q1, qP, qK, qD, qN, qO⟩ := q
  exact ⟨q0, q1, qP, va_K.moved (u := U) (U := U.calling g mk a) (Vm.Alike.refl U.vm) qK, qD, ENV.same (u := U) (U := U.calling g mk a) rfl qN, va_AO.moved (u := U) (U := U.calling g mk a) (Vm.Alike.refl U.vm) qO⟩
theorem pN {s : State} {H : Heap} {D : va_G} {tys : List (ClassId × FieldType)} {wc : va_W} {A : Nat → Prop} {As : List Value} (hK : va_K D vwCl tys s) (hP : va_P D vwCl wc H) (hD : va_D A wc) (hN : ENV s) (hO : va_AO RX4 s) : PreS s H (PcN D tys wc H.size As) As :=
  ⟨PcN.blind, fun U hU hW => ⟨rfl, by rw [hU], by rw [hU]; exact hP, va_K.moved hW.alike hK, hD.weaken (fun _ _ _ _ => trivial), hN.warm hW, hO.moved hW.alike⟩⟩
theorem int_same {D : va_G} {tys : List (ClassId × FieldType)} {s : State} {cA cB : ClassId} (k j : Nat) (h : va_K D vwCl tys s) (hk : tys[k]? = some (cA, .int)) {tys2 : List (ClassId × FieldType)} (h2 : va_K D vwCl tys2 s) (hj : tys2[j]? = some (cB, .int)) : cB = cA :=
  Option.some.inj ((va_nm_int (h2.2 j _ hj).2).symm.trans (va_nm_int (h.2 k _ hk).2))
theorem char_same {D : va_G} {tys : List (ClassId × FieldType)} {s : State} {cA cB : ClassId} (k j : Nat) (h : va_K D vwCl tys s) (hk : tys[k]? = some (cA, .char)) {tys2 : List (ClassId × FieldType)} (h2 : va_K D vwCl tys2 s) (hj : tys2[j]? = some (cB, .char)) : cB = cA :=
  Option.some.inj ((va_nm_char (h2.2 j _ hj).2).symm.trans (va_nm_char (h.2 k _ hk).2))
theorem obj_same {D : va_G} {tys : List (ClassId × FieldType)} {s : State} {cA cB : ClassId} {C : String} (k j : Nat) (h : va_K D vwCl tys s) (hk : tys[k]? = some (cA, .object C)) {tys2 : List (ClassId × FieldType)} (h2 : va_K D vwCl tys2 s) (hj : tys2[j]? = some (cB, .object C)) : cB = cA :=
  Option.some.inj ((va_nmO (h2.2 j _ hj).2 rfl).symm.trans (va_nmO (h.2 k _ hk).2 rfl))
theorem setq_same {D : va_G} {cl : List vw_C} {A : Nat → Prop} {ws : va_W} {H : Heap} {q1 a : Nat} {cA : ClassId} {n : Nat} {f g : Nat → Option Nat} (e : ∀ q, q < n → f q = g q) (hP : va_P D cl (ws.set q1 (a, .inl (cA, n, .inr (.inr (.inr (.inr f)))))) H) (hD : va_D A (ws.set q1 (a, .inl (cA, n, .inr (.inr (.inr (.inr f))))))) : va_P D cl (ws.set q1 (a, .inl (cA, n, .inr (.inr (.inr (.inr g)))))) H ∧ va_D A (ws.set q1 (a, .inl (cA, n, .inr (.inr (.inr (.inr g)))))) := by
  have ce : vp_cell cA (n, .inr (.inr (.inr (.inr f)))) = vp_cell cA (n, .inr (.inr (.inr (.inr g)))) := by
    rw [vp_cell_q, vp_cell_q]
    unfold arrV
    congr 1
    congr 1
    funext j
    show va_rf (f j.val) = va_rf (g j.val)
    rw [e j.val j.isLt]
  have key : ∀ (k : Nat) (q : Nat × va_E), (ws.set q1 (a, .inl (cA, n, .inr (.inr (.inr (.inr g))))))[k]? = some q → ∃ q', (ws.set q1 (a, .inl (cA, n, .inr (.inr (.inr (.inr f))))))[k]? = some q' ∧ q'.1 = q.1 ∧ ∀ H, va_at D cl q' H → va_at D cl q H := by
    intro k q hk
    rw [List.getElem?_set] at hk ⊢
    by_cases h1 : q1 = k
    · rw [if_pos h1] at hk ⊢
      by_cases h2 : q1 < ws.length
      · rw [if_pos h2] at hk ⊢
        cases hk
        refine ⟨_, rfl, rfl, fun H h => ?_⟩
        show H[a]? = some (vp_cell cA (n, .inr (.inr (.inr (.inr g)))))
        rw [← ce]
        exact h
      · rw [if_neg h2] at hk
        cases hk
    · rw [if_neg h1] at hk ⊢
      exact ⟨q, hk, rfl, fun _ h => h⟩
  refine ⟨fun k q hk => ?_, fun i j p q hi hj hpq => ?_, fun k q hk => ?_⟩
  · obtain ⟨q', h1, h2, h3⟩ := key k q hk
    exact h3 H (hP k q' h1)
  · obtain ⟨p', h1, h2, -⟩ := key i p hi
    obtain ⟨q', g1, g2, -⟩ := key j q hj
    exact hD.1 i j p' q' h1 g1 (by rw [h2, g2, hpq])
  · obtain ⟨q', h1, h2, -⟩ := key k q hk
    rw [← h2]
    exact hD.2 k q' h1
def rowSl : Nat → Int32 := upd (upd (upd (upd z0 12 100) 13 100) 14 100) 15 100
def rowRt : Nat → Int32 := upd (upd (upd (upd z0 0 (-1)) 1 (-1)) 2 (-1)) 3 (-1)
def S0 : SR := fun r => if r = 1 then rowSl else if r = 5 then rowRt else z0
def Z0 : SR := fun _ => z0
def G0 : GR := fun k => if k < 7 then S0 else Z0
def cHs (q : Nat → Nat) (cI cS : ClassId) : va_W := [(q 0, .inr (1, [.ref (q 1), .int 0, .int 0])), (q 1, .inl (cS, 5, .inr (.inr (.inr (.inr (fun i => some (q (2 + 12 * i))))))))] ++ cSt (fun j => q (2 + j)) cI S0 ++ cSt (fun j => q (14 + j)) cI S0 ++ cSt (fun j => q (26 + j)) cI S0 ++ cSt (fun j => q (38 + j)) cI S0 ++ cSt (fun j => q (50 + j)) cI S0

abbrev rm_X0_init : Room := { frames := 1, cells := 1, slots := 16, locals := 12 }
set_option maxHeartbeats 4000000 in
set_option maxRecDepth 100000 in
theorem c_X0_init (l : Launch) (dC : Nat → ClassId) (dI : Nat → Nat → Nat) (cI cC cS : ClassId) (h0 : Nat) (sz : Nat) : Met l yX0_init wsX0_init rm_X0_init (PcN (dC, dI) (tyL cI cC cS) [(h0, .inr (0, [.int 0, .int 0, .int 0, .int 0, .null]))] sz [.ref h0]) (va_Qv (fun q : Nat → Nat => q 0 = h0) (fun q U => va_P (dC, dI) vwCl (cFd q cI Z0) U.heap ∧ va_D (va_A [(h0, .inr (0, [.int 0, .int 0, .int 0, .int 0, .null]))] sz) (cFd q cI Z0)) (va_A [(h0, .inr (0, [.int 0, .int 0, .int 0, .int 0, .null]))] sz)) 1 16 (va_A [(h0, .inr (0, [.int 0, .int 0, .int 0, .int 0, .null]))] sz) := by
  refine Met.ofW (cc := cX0_init) (maxL := 1) (ret := none) (by decide) rfl ?_
  intro p e s m args below meth c s₁ B hml hv
  obtain ⟨rfl, hsz, hP, hK, hD0, hN, hO⟩ := hv
  have hx := B.exec
  have hb := B.bytes
  have hr := B.returns
  have hts := atoms_spec (ws := wsX0_init) B.pre
  have hown : s.vm.findClass RX0 = some m.cls := findClass_of_methodNamed B.named
  have hlocks := B.notSynchronized
  have hin : meth.name = "<init>" := (name_of_methodNamed B.named B.method).1
  subst hsz
  have hD := hD0.self (sz := s.heap.size)
  have hA : ∀ q : Nat, s.heap.size ≤ q → va_A [(h0, .inr (0, [.int 0, .int 0, .int 0, .int 0, .null]))] s.heap.size q := fun q h => Or.inr h
  have hS : va_S (va_A [(h0, .inr (0, [.int 0, .int 0, .int 0, .int 0, .null]))] s.heap.size) s.heap s.heap [] := va_S.rf
  have hin0 : ∀ w ∈ wsX00, w ∈ wsX0_init := fun _ h => List.mem_cons_of_mem _ (List.mem_append_right _ h)
  have hl := lv_entry [.ref h0] (n := 1) (Nat.le_of_ble_eq_true rfl)
  rw [lg_entry_eq]
  generalize (lg_sl [.ref h0] ++ List.replicate (1 - (lg_sl [.ref h0]).length) Slot.unset).toArray = ls at hl ⊢
  have hl : lv_has ls 1 [(0, .ref h0)] := hl
  refine lv_aload_n hx hb dX0_init_0 rfl (lv_at hl 0 rfl) ?_
  refine W.objInit hx hb hown (hts (.methodLink RX0 3 objectInit) (List.mem_of_getElem? (i := 1) rfl)) (hts (.instanceMethod objectInit) (List.mem_of_getElem? (i := 2) rfl)) (hts (.code objectInit ⟨#[0xb1]⟩ 1 none) (List.mem_of_getElem? (i := 3) rfl)) rfl (by rw [hml]; exact hl.1) rfl dX0_init_1 (Nat.le_of_ble_eq_true rfl) (Nat.le_of_ble_eq_true rfl) ?_
  refine W.eq (g2 := F0 m 4 ls []) rfl ?_
  refine lv_aload_n hx hb dX0_init_4 rfl (lv_at hl 0 rfl) ?_
  refine lv_bipush (v := 16) hx hb dX0_init_5 (by decide) ?_
  refine va_newa (atype := .int) (ty := .int) (a0 := (16, .inl z0)) (N' := 16) hx hb (hts (.arrayClass .int) (List.mem_of_getElem? (i := 4) rfl)) rfl hK hP hD hS hA (fun cA => rfl) (by decide) (by decide +kernel) (Nat.le_of_ble_eq_true rfl) (Nat.le_of_ble_eq_true rfl) (Nat.le_of_ble_eq_true rfl) dX0_init_7 (fun q1 cA H2 hK1 hP hD hS => ?_)
  have eA := int_same 0 3 hK rfl hK1 rfl
  rw [eA] at hP hD
  clear eA hK1
  have hP : va_P (dC, dI) vwCl ([(h0, .inr (0, [.int 0, .int 0, .int 0, .int 0, .null])), (q1, .inl (cI, 16, .inl z0))]) H2 := hP
  have hD : va_D (va_A [(h0, .inr (0, [.int 0, .int 0, .int 0, .int 0, .null]))] s.heap.size) ([(h0, .inr (0, [.int 0, .int 0, .int 0, .int 0, .null])), (q1, .inl (cI, 16, .inl z0))]) := hD
  refine W.widen (k := 1) (n := 16) (Nat.le_of_ble_eq_true rfl) (Nat.le_of_ble_eq_true rfl) ?_
  refine va_putF (D := (dC, dI)) (ci := 0) (v := .ref q1) (ty := .array .int) (C := RX0) (T := TX0) (N := 5) hx hb hts hin0 tyX0 tyX0_ok nmX0 hown hK hP hD hS 0 rfl rfl 4 (by decide) (hts (.fieldLink RX0 9 "FeedDesk$Fade" "from" "[I") (List.mem_of_getElem? (i := 5) rfl)) (fun _ h9 => h9) rfl hin rfl (by decide +kernel) rfl rfl (Nat.le_of_ble_eq_true rfl) dX0_init_9 (fun H3 locs hP hD hS => ?_)
  have hP : va_P (dC, dI) vwCl ([(h0, .inr (0, [.int 0, .int 0, .int 0, .int 0, .ref q1])), (q1, .inl (cI, 16, .inl z0))]) H3 := hP
  have hD : va_D (va_A [(h0, .inr (0, [.int 0, .int 0, .int 0, .int 0, .null]))] s.heap.size) ([(h0, .inr (0, [.int 0, .int 0, .int 0, .int 0, .ref q1])), (q1, .inl (cI, 16, .inl z0))]) := hD
  have hP9 : va_P (dC, dI) vwCl (cFd (lk [h0, q1] (fun _ => 0)) cI Z0) H3 := hP.sub [0, 1] rfl
  have hD9 : va_D (va_A [(h0, .inr (0, [.int 0, .int 0, .int 0, .int 0, .null]))] s.heap.size) (cFd (lk [h0, q1] (fun _ => 0)) cI Z0) := hD.sub [0, 1] (by decide) rfl
  exact W.vret hx hb hr (fun t ht hWw => ⟨⟨lk [h0, q1] (fun _ => 0), rfl, rfl, by rw [ht]; exact hP9, hD9⟩, hS.F ht⟩) hS.2.2 dX0_init_12
abbrev rm_X4_init : Room := { frames := 2, cells := 11, slots := 235, locals := 32 }
set_option maxHeartbeats 4000000 in
set_option maxRecDepth 100000 in
theorem c_X4_init (l : Launch) (dC : Nat → ClassId) (dI : Nat → Nat → Nat) (cI cC cS : ClassId) (h0 : Nat) (sz : Nat) : Met l yX4_init wsX4_init rm_X4_init (PcN (dC, dI) (tyL cI cC cS) [(h0, .inr (4, [.null, .null, .null, .int 0, .int 0, .int 0, .null, .null, .null, .null, .null, .int 0, .int 0, .int 0, .int 0, .null, .int 0, .null]))] sz [.ref h0]) (va_Qv (fun q : Nat → Nat => q 0 = h0) (fun q U => va_P (dC, dI) vwCl (cSt q cI S0) U.heap ∧ va_D (va_A [(h0, .inr (4, [.null, .null, .null, .int 0, .int 0, .int 0, .null, .null, .null, .null, .null, .int 0, .int 0, .int 0, .int 0, .null, .int 0, .null]))] sz) (cSt q cI S0)) (va_A [(h0, .inr (4, [.null, .null, .null, .int 0, .int 0, .int 0, .null, .null, .null, .null, .null, .int 0, .int 0, .int 0, .int 0, .null, .int 0, .null]))] sz)) 11 235 (va_A [(h0, .inr (4, [.null, .null, .null, .int 0, .int 0, .int 0, .null, .null, .null, .null, .null, .int 0, .int 0, .int 0, .int 0, .null, .int 0, .null]))] sz) := by
  refine Met.ofW (cc := cX4_init) (maxL := 2) (ret := none) (by decide) rfl ?_
  intro p e s m args below meth c s₁ B hml hv
  obtain ⟨rfl, hsz, hP, hK, hD0, hN, hO⟩ := hv
  have hx := B.exec
  have hb := B.bytes
  have hr := B.returns
  have hts := atoms_spec (ws := wsX4_init) B.pre
  have hown : s.vm.findClass RX4 = some m.cls := findClass_of_methodNamed B.named
  have hlocks := B.notSynchronized
  have hin : meth.name = "<init>" := (name_of_methodNamed B.named B.method).1
  subst hsz
  have hD := hD0.self (sz := s.heap.size)
  have hA : ∀ q : Nat, s.heap.size ≤ q → va_A [(h0, .inr (4, [.null, .null, .null, .int 0, .int 0, .int 0, .null, .null, .null, .null, .null, .int 0, .int 0, .int 0, .int 0, .null, .int 0, .null]))] s.heap.size q := fun q h => Or.inr h
  have hS : va_S (va_A [(h0, .inr (4, [.null, .null, .null, .int 0, .int 0, .int 0, .null, .null, .null, .null, .null, .int 0, .int 0, .int 0, .int 0, .null, .int 0, .null]))] s.heap.size) s.heap s.heap [] := va_S.rf
  have hin4 : ∀ w ∈ wsX40, w ∈ wsX4_init := fun _ h => List.mem_cons_of_mem _ (List.mem_append_left _ (List.mem_append_right _ h))
  have hin0 : ∀ w ∈ wsX00, w ∈ wsX4_init := fun _ h => List.mem_cons_of_mem _ (List.mem_append_right _ h)
  have hl := lv_entry [.ref h0] (n := 2) (Nat.le_of_ble_eq_true rfl)
  rw [lg_entry_eq]
  generalize (lg_sl [.ref h0] ++ List.replicate (2 - (lg_sl [.ref h0]).length) Slot.unset).toArray = ls at hl ⊢
  have hl : lv_has ls 2 [(0, .ref h0)] := hl
  refine lv_aload_n hx hb dX4_init_0 rfl (lv_at hl 0 rfl) ?_
  refine W.objInit hx hb hown (hts (.methodLink RX4 3 objectInit) (List.mem_of_getElem? (i := 1) rfl)) (hts (.instanceMethod objectInit) (List.mem_of_getElem? (i := 2) rfl)) (hts (.code objectInit ⟨#[0xb1]⟩ 1 none) (List.mem_of_getElem? (i := 3) rfl)) rfl (by rw [hml]; exact hl.1) rfl dX4_init_1 (Nat.le_of_ble_eq_true rfl) (Nat.le_of_ble_eq_true rfl) ?_
  refine W.eq (g2 := F0 m 4 ls []) rfl ?_
  refine lv_aload_n hx hb dX4_init_4 rfl (lv_at hl 0 rfl) ?_
  refine lv_bipush (v := 12) hx hb dX4_init_5 (by decide) ?_
  refine va_newa (atype := .int) (ty := .int) (a0 := (12, .inl z0)) (N' := 12) hx hb (hts (.arrayClass .int) (List.mem_of_getElem? (i := 4) rfl)) rfl hK hP hD hS hA (fun cA => rfl) (by decide) (by decide +kernel) (Nat.le_of_ble_eq_true rfl) (Nat.le_of_ble_eq_true rfl) (Nat.le_of_ble_eq_true rfl) dX4_init_7 (fun q1 cA H2 hK1 hP hD hS => ?_)
  have eA := int_same 0 3 hK rfl hK1 rfl
  rw [eA] at hP hD
  clear eA hK1
  have hP : va_P (dC, dI) vwCl ([(h0, .inr (4, [.null, .null, .null, .int 0, .int 0, .int 0, .null, .null, .null, .null, .null, .int 0, .int 0, .int 0, .int 0, .null, .int 0, .null])), (q1, .inl (cI, 12, .inl z0))]) H2 := hP
  have hD : va_D (va_A [(h0, .inr (4, [.null, .null, .null, .int 0, .int 0, .int 0, .null, .null, .null, .null, .null, .int 0, .int 0, .int 0, .int 0, .null, .int 0, .null]))] s.heap.size) ([(h0, .inr (4, [.null, .null, .null, .int 0, .int 0, .int 0, .null, .null, .null, .null, .null, .int 0, .int 0, .int 0, .int 0, .null, .int 0, .null])), (q1, .inl (cI, 12, .inl z0))]) := hD
  refine W.widen (k := 1) (n := 12) (Nat.le_of_ble_eq_true rfl) (Nat.le_of_ble_eq_true rfl) ?_
  refine va_putF (D := (dC, dI)) (ci := 4) (v := .ref q1) (ty := .array .int) (C := RX4) (T := TX4) (N := 18) hx hb hts hin4 tyX4 tyX4_ok nmX4 hown hK hP hD hS 0 rfl rfl 0 (by decide) (hts (.fieldLink RX4 9 "FeedDesk$State" "input" "[I") (List.mem_of_getElem? (i := 5) rfl)) (fun _ h9 => h9) rfl hin rfl (by decide +kernel) rfl rfl (Nat.le_of_ble_eq_true rfl) dX4_init_9 (fun H3 locs hP hD hS => ?_)
  have hP : va_P (dC, dI) vwCl ([(h0, .inr (4, [.ref q1, .null, .null, .int 0, .int 0, .int 0, .null, .null, .null, .null, .null, .int 0, .int 0, .int 0, .int 0, .null, .int 0, .null])), (q1, .inl (cI, 12, .inl z0))]) H3 := hP
  have hD : va_D (va_A [(h0, .inr (4, [.null, .null, .null, .int 0, .int 0, .int 0, .null, .null, .null, .null, .null, .int 0, .int 0, .int 0, .int 0, .null, .int 0, .null]))] s.heap.size) ([(h0, .inr (4, [.ref q1, .null, .null, .int 0, .int 0, .int 0, .null, .null, .null, .null, .null, .int 0, .int 0, .int 0, .int 0, .null, .int 0, .null])), (q1, .inl (cI, 12, .inl z0))]) := hD
  refine lv_aload_n hx hb dX4_init_12 rfl (lv_at hl 0 rfl) ?_
  refine lv_bipush (v := 16) hx hb dX4_init_13 (by decide) ?_
  refine va_newa (atype := .int) (ty := .int) (a0 := (16, .inl z0)) (N' := 16) hx hb (hts (.arrayClass .int) (List.mem_of_getElem? (i := 4) rfl)) rfl hK hP hD hS hA (fun cA => rfl) (by decide) (by decide +kernel) (Nat.le_of_ble_eq_true rfl) (Nat.le_of_ble_eq_true rfl) (Nat.le_of_ble_eq_true rfl) dX4_init_15 (fun q4 cA H5 hK1 hP hD hS => ?_)
  have eA := int_same 0 3 hK rfl hK1 rfl
  rw [eA] at hP hD
  clear eA hK1
  have hP : va_P (dC, dI) vwCl ([(h0, .inr (4, [.ref q1, .null, .null, .int 0, .int 0, .int 0, .null, .null, .null, .null, .null, .int 0, .int 0, .int 0, .int 0, .null, .int 0, .null])), (q1, .inl (cI, 12, .inl z0)), (q4, .inl (cI, 16, .inl z0))]) H5 := hP
  have hD : va_D (va_A [(h0, .inr (4, [.null, .null, .null, .int 0, .int 0, .int 0, .null, .null, .null, .null, .null, .int 0, .int 0, .int 0, .int 0, .null, .int 0, .null]))] s.heap.size) ([(h0, .inr (4, [.ref q1, .null, .null, .int 0, .int 0, .int 0, .null, .null, .null, .null, .null, .int 0, .int 0, .int 0, .int 0, .null, .int 0, .null])), (q1, .inl (cI, 12, .inl z0)), (q4, .inl (cI, 16, .inl z0))]) := hD
  refine W.widen (k := 2) (n := 28) (Nat.le_of_ble_eq_true rfl) (Nat.le_of_ble_eq_true rfl) ?_
  refine va_putF (D := (dC, dI)) (ci := 4) (v := .ref q4) (ty := .array .int) (C := RX4) (T := TX4) (N := 18) hx hb hts hin4 tyX4 tyX4_ok nmX4 hown hK hP hD hS 0 rfl rfl 1 (by decide) (hts (.fieldLink RX4 15 "FeedDesk$State" "sliders" "[I") (List.mem_of_getElem? (i := 6) rfl)) (fun _ h9 => h9) rfl hin rfl (by decide +kernel) rfl rfl (Nat.le_of_ble_eq_true rfl) dX4_init_17 (fun H6 locs hP hD hS => ?_)
  have hP : va_P (dC, dI) vwCl ([(h0, .inr (4, [.ref q1, .ref q4, .null, .int 0, .int 0, .int 0, .null, .null, .null, .null, .null, .int 0, .int 0, .int 0, .int 0, .null, .int 0, .null])), (q1, .inl (cI, 12, .inl z0)), (q4, .inl (cI, 16, .inl z0))]) H6 := hP
  have hD : va_D (va_A [(h0, .inr (4, [.null, .null, .null, .int 0, .int 0, .int 0, .null, .null, .null, .null, .null, .int 0, .int 0, .int 0, .int 0, .null, .int 0, .null]))] s.heap.size) ([(h0, .inr (4, [.ref q1, .ref q4, .null, .int 0, .int 0, .int 0, .null, .null, .null, .null, .null, .int 0, .int 0, .int 0, .int 0, .null, .int 0, .null])), (q1, .inl (cI, 12, .inl z0)), (q4, .inl (cI, 16, .inl z0))]) := hD
  refine lv_aload_n hx hb dX4_init_20 rfl (lv_at hl 0 rfl) ?_
  refine lv_bipush (v := 12) hx hb dX4_init_21 (by decide) ?_
  refine va_newa (atype := .int) (ty := .int) (a0 := (12, .inl z0)) (N' := 12) hx hb (hts (.arrayClass .int) (List.mem_of_getElem? (i := 4) rfl)) rfl hK hP hD hS hA (fun cA => rfl) (by decide) (by decide +kernel) (Nat.le_of_ble_eq_true rfl) (Nat.le_of_ble_eq_true rfl) (Nat.le_of_ble_eq_true rfl) dX4_init_23 (fun q7 cA H8 hK1 hP hD hS => ?_)
  have eA := int_same 0 3 hK rfl hK1 rfl
  rw [eA] at hP hD
  clear eA hK1
  have hP : va_P (dC, dI) vwCl ([(h0, .inr (4, [.ref q1, .ref q4, .null, .int 0, .int 0, .int 0, .null, .null, .null, .null, .null, .int 0, .int 0, .int 0, .int 0, .null, .int 0, .null])), (q1, .inl (cI, 12, .inl z0)), (q4, .inl (cI, 16, .inl z0)), (q7, .inl (cI, 12, .inl z0))]) H8 := hP
  have hD : va_D (va_A [(h0, .inr (4, [.null, .null, .null, .int 0, .int 0, .int 0, .null, .null, .null, .null, .null, .int 0, .int 0, .int 0, .int 0, .null, .int 0, .null]))] s.heap.size) ([(h0, .inr (4, [.ref q1, .ref q4, .null, .int 0, .int 0, .int 0, .null, .null, .null, .null, .null, .int 0, .int 0, .int 0, .int 0, .null, .int 0, .null])), (q1, .inl (cI, 12, .inl z0)), (q4, .inl (cI, 16, .inl z0)), (q7, .inl (cI, 12, .inl z0))]) := hD
  refine W.widen (k := 3) (n := 40) (Nat.le_of_ble_eq_true rfl) (Nat.le_of_ble_eq_true rfl) ?_
  refine va_putF (D := (dC, dI)) (ci := 4) (v := .ref q7) (ty := .array .int) (C := RX4) (T := TX4) (N := 18) hx hb hts hin4 tyX4 tyX4_ok nmX4 hown hK hP hD hS 0 rfl rfl 2 (by decide) (hts (.fieldLink RX4 18 "FeedDesk$State" "groups" "[I") (List.mem_of_getElem? (i := 7) rfl)) (fun _ h9 => h9) rfl hin rfl (by decide +kernel) rfl rfl (Nat.le_of_ble_eq_true rfl) dX4_init_25 (fun H9 locs hP hD hS => ?_)
  have hP : va_P (dC, dI) vwCl ([(h0, .inr (4, [.ref q1, .ref q4, .ref q7, .int 0, .int 0, .int 0, .null, .null, .null, .null, .null, .int 0, .int 0, .int 0, .int 0, .null, .int 0, .null])), (q1, .inl (cI, 12, .inl z0)), (q4, .inl (cI, 16, .inl z0)), (q7, .inl (cI, 12, .inl z0))]) H9 := hP
  have hD : va_D (va_A [(h0, .inr (4, [.null, .null, .null, .int 0, .int 0, .int 0, .null, .null, .null, .null, .null, .int 0, .int 0, .int 0, .int 0, .null, .int 0, .null]))] s.heap.size) ([(h0, .inr (4, [.ref q1, .ref q4, .ref q7, .int 0, .int 0, .int 0, .null, .null, .null, .null, .null, .int 0, .int 0, .int 0, .int 0, .null, .int 0, .null])), (q1, .inl (cI, 12, .inl z0)), (q4, .inl (cI, 16, .inl z0)), (q7, .inl (cI, 12, .inl z0))]) := hD
  refine lv_aload_n hx hb dX4_init_28 rfl (lv_at hl 0 rfl) ?_
  refine lv_bipush (v := 48) hx hb dX4_init_29 (by decide) ?_
  refine va_newa (atype := .int) (ty := .int) (a0 := (48, .inl z0)) (N' := 48) hx hb (hts (.arrayClass .int) (List.mem_of_getElem? (i := 4) rfl)) rfl hK hP hD hS hA (fun cA => rfl) (by decide) (by decide +kernel) (Nat.le_of_ble_eq_true rfl) (Nat.le_of_ble_eq_true rfl) (Nat.le_of_ble_eq_true rfl) dX4_init_31 (fun q10 cA H11 hK1 hP hD hS => ?_)
  have eA := int_same 0 3 hK rfl hK1 rfl
  rw [eA] at hP hD
  clear eA hK1
  have hP : va_P (dC, dI) vwCl ([(h0, .inr (4, [.ref q1, .ref q4, .ref q7, .int 0, .int 0, .int 0, .null, .null, .null, .null, .null, .int 0, .int 0, .int 0, .int 0, .null, .int 0, .null])), (q1, .inl (cI, 12, .inl z0)), (q4, .inl (cI, 16, .inl z0)), (q7, .inl (cI, 12, .inl z0)), (q10, .inl (cI, 48, .inl z0))]) H11 := hP
  have hD : va_D (va_A [(h0, .inr (4, [.null, .null, .null, .int 0, .int 0, .int 0, .null, .null, .null, .null, .null, .int 0, .int 0, .int 0, .int 0, .null, .int 0, .null]))] s.heap.size) ([(h0, .inr (4, [.ref q1, .ref q4, .ref q7, .int 0, .int 0, .int 0, .null, .null, .null, .null, .null, .int 0, .int 0, .int 0, .int 0, .null, .int 0, .null])), (q1, .inl (cI, 12, .inl z0)), (q4, .inl (cI, 16, .inl z0)), (q7, .inl (cI, 12, .inl z0)), (q10, .inl (cI, 48, .inl z0))]) := hD
  refine W.widen (k := 4) (n := 88) (Nat.le_of_ble_eq_true rfl) (Nat.le_of_ble_eq_true rfl) ?_
  refine va_putF (D := (dC, dI)) (ci := 4) (v := .ref q10) (ty := .array .int) (C := RX4) (T := TX4) (N := 18) hx hb hts hin4 tyX4 tyX4_ok nmX4 hown hK hP hD hS 0 rfl rfl 6 (by decide) (hts (.fieldLink RX4 21 "FeedDesk$State" "sends" "[I") (List.mem_of_getElem? (i := 8) rfl)) (fun _ h9 => h9) rfl hin rfl (by decide +kernel) rfl rfl (Nat.le_of_ble_eq_true rfl) dX4_init_33 (fun H12 locs hP hD hS => ?_)
  have hP : va_P (dC, dI) vwCl ([(h0, .inr (4, [.ref q1, .ref q4, .ref q7, .int 0, .int 0, .int 0, .ref q10, .null, .null, .null, .null, .int 0, .int 0, .int 0, .int 0, .null, .int 0, .null])), (q1, .inl (cI, 12, .inl z0)), (q4, .inl (cI, 16, .inl z0)), (q7, .inl (cI, 12, .inl z0)), (q10, .inl (cI, 48, .inl z0))]) H12 := hP
  have hD : va_D (va_A [(h0, .inr (4, [.null, .null, .null, .int 0, .int 0, .int 0, .null, .null, .null, .null, .null, .int 0, .int 0, .int 0, .int 0, .null, .int 0, .null]))] s.heap.size) ([(h0, .inr (4, [.ref q1, .ref q4, .ref q7, .int 0, .int 0, .int 0, .ref q10, .null, .null, .null, .null, .int 0, .int 0, .int 0, .int 0, .null, .int 0, .null])), (q1, .inl (cI, 12, .inl z0)), (q4, .inl (cI, 16, .inl z0)), (q7, .inl (cI, 12, .inl z0)), (q10, .inl (cI, 48, .inl z0))]) := hD
  refine lv_aload_n hx hb dX4_init_36 rfl (lv_at hl 0 rfl) ?_
  refine lv_iconst (v := 4) hx hb dX4_init_37 (by decide) ?_
  refine va_newa (atype := .int) (ty := .int) (a0 := (4, .inl z0)) (N' := 4) hx hb (hts (.arrayClass .int) (List.mem_of_getElem? (i := 4) rfl)) rfl hK hP hD hS hA (fun cA => rfl) (by decide) (by decide +kernel) (Nat.le_of_ble_eq_true rfl) (Nat.le_of_ble_eq_true rfl) (Nat.le_of_ble_eq_true rfl) dX4_init_38 (fun q13 cA H14 hK1 hP hD hS => ?_)
  have eA := int_same 0 3 hK rfl hK1 rfl
  rw [eA] at hP hD
  clear eA hK1
  have hP : va_P (dC, dI) vwCl ([(h0, .inr (4, [.ref q1, .ref q4, .ref q7, .int 0, .int 0, .int 0, .ref q10, .null, .null, .null, .null, .int 0, .int 0, .int 0, .int 0, .null, .int 0, .null])), (q1, .inl (cI, 12, .inl z0)), (q4, .inl (cI, 16, .inl z0)), (q7, .inl (cI, 12, .inl z0)), (q10, .inl (cI, 48, .inl z0)), (q13, .inl (cI, 4, .inl z0))]) H14 := hP
  have hD : va_D (va_A [(h0, .inr (4, [.null, .null, .null, .int 0, .int 0, .int 0, .null, .null, .null, .null, .null, .int 0, .int 0, .int 0, .int 0, .null, .int 0, .null]))] s.heap.size) ([(h0, .inr (4, [.ref q1, .ref q4, .ref q7, .int 0, .int 0, .int 0, .ref q10, .null, .null, .null, .null, .int 0, .int 0, .int 0, .int 0, .null, .int 0, .null])), (q1, .inl (cI, 12, .inl z0)), (q4, .inl (cI, 16, .inl z0)), (q7, .inl (cI, 12, .inl z0)), (q10, .inl (cI, 48, .inl z0)), (q13, .inl (cI, 4, .inl z0))]) := hD
  refine W.widen (k := 5) (n := 92) (Nat.le_of_ble_eq_true rfl) (Nat.le_of_ble_eq_true rfl) ?_
  refine va_putF (D := (dC, dI)) (ci := 4) (v := .ref q13) (ty := .array .int) (C := RX4) (T := TX4) (N := 18) hx hb hts hin4 tyX4 tyX4_ok nmX4 hown hK hP hD hS 0 rfl rfl 7 (by decide) (hts (.fieldLink RX4 24 "FeedDesk$State" "owners" "[I") (List.mem_of_getElem? (i := 9) rfl)) (fun _ h9 => h9) rfl hin rfl (by decide +kernel) rfl rfl (Nat.le_of_ble_eq_true rfl) dX4_init_40 (fun H15 locs hP hD hS => ?_)
  have hP : va_P (dC, dI) vwCl ([(h0, .inr (4, [.ref q1, .ref q4, .ref q7, .int 0, .int 0, .int 0, .ref q10, .ref q13, .null, .null, .null, .int 0, .int 0, .int 0, .int 0, .null, .int 0, .null])), (q1, .inl (cI, 12, .inl z0)), (q4, .inl (cI, 16, .inl z0)), (q7, .inl (cI, 12, .inl z0)), (q10, .inl (cI, 48, .inl z0)), (q13, .inl (cI, 4, .inl z0))]) H15 := hP
  have hD : va_D (va_A [(h0, .inr (4, [.null, .null, .null, .int 0, .int 0, .int 0, .null, .null, .null, .null, .null, .int 0, .int 0, .int 0, .int 0, .null, .int 0, .null]))] s.heap.size) ([(h0, .inr (4, [.ref q1, .ref q4, .ref q7, .int 0, .int 0, .int 0, .ref q10, .ref q13, .null, .null, .null, .int 0, .int 0, .int 0, .int 0, .null, .int 0, .null])), (q1, .inl (cI, 12, .inl z0)), (q4, .inl (cI, 16, .inl z0)), (q7, .inl (cI, 12, .inl z0)), (q10, .inl (cI, 48, .inl z0)), (q13, .inl (cI, 4, .inl z0))]) := hD
  refine lv_aload_n hx hb dX4_init_43 rfl (lv_at hl 0 rfl) ?_
  refine lv_iconst (v := 4) hx hb dX4_init_44 (by decide) ?_
  refine va_newa (atype := .int) (ty := .int) (a0 := (4, .inl z0)) (N' := 4) hx hb (hts (.arrayClass .int) (List.mem_of_getElem? (i := 4) rfl)) rfl hK hP hD hS hA (fun cA => rfl) (by decide) (by decide +kernel) (Nat.le_of_ble_eq_true rfl) (Nat.le_of_ble_eq_true rfl) (Nat.le_of_ble_eq_true rfl) dX4_init_45 (fun q16 cA H17 hK1 hP hD hS => ?_)
  have eA := int_same 0 3 hK rfl hK1 rfl
  rw [eA] at hP hD
  clear eA hK1
  have hP : va_P (dC, dI) vwCl ([(h0, .inr (4, [.ref q1, .ref q4, .ref q7, .int 0, .int 0, .int 0, .ref q10, .ref q13, .null, .null, .null, .int 0, .int 0, .int 0, .int 0, .null, .int 0, .null])), (q1, .inl (cI, 12, .inl z0)), (q4, .inl (cI, 16, .inl z0)), (q7, .inl (cI, 12, .inl z0)), (q10, .inl (cI, 48, .inl z0)), (q13, .inl (cI, 4, .inl z0)), (q16, .inl (cI, 4, .inl z0))]) H17 := hP
  have hD : va_D (va_A [(h0, .inr (4, [.null, .null, .null, .int 0, .int 0, .int 0, .null, .null, .null, .null, .null, .int 0, .int 0, .int 0, .int 0, .null, .int 0, .null]))] s.heap.size) ([(h0, .inr (4, [.ref q1, .ref q4, .ref q7, .int 0, .int 0, .int 0, .ref q10, .ref q13, .null, .null, .null, .int 0, .int 0, .int 0, .int 0, .null, .int 0, .null])), (q1, .inl (cI, 12, .inl z0)), (q4, .inl (cI, 16, .inl z0)), (q7, .inl (cI, 12, .inl z0)), (q10, .inl (cI, 48, .inl z0)), (q13, .inl (cI, 4, .inl z0)), (q16, .inl (cI, 4, .inl z0))]) := hD
  refine W.widen (k := 6) (n := 96) (Nat.le_of_ble_eq_true rfl) (Nat.le_of_ble_eq_true rfl) ?_
  refine va_putF (D := (dC, dI)) (ci := 4) (v := .ref q16) (ty := .array .int) (C := RX4) (T := TX4) (N := 18) hx hb hts hin4 tyX4 tyX4_ok nmX4 hown hK hP hD hS 0 rfl rfl 8 (by decide) (hts (.fieldLink RX4 27 "FeedDesk$State" "returns" "[I") (List.mem_of_getElem? (i := 10) rfl)) (fun _ h9 => h9) rfl hin rfl (by decide +kernel) rfl rfl (Nat.le_of_ble_eq_true rfl) dX4_init_47 (fun H18 locs hP hD hS => ?_)
  have hP : va_P (dC, dI) vwCl ([(h0, .inr (4, [.ref q1, .ref q4, .ref q7, .int 0, .int 0, .int 0, .ref q10, .ref q13, .ref q16, .null, .null, .int 0, .int 0, .int 0, .int 0, .null, .int 0, .null])), (q1, .inl (cI, 12, .inl z0)), (q4, .inl (cI, 16, .inl z0)), (q7, .inl (cI, 12, .inl z0)), (q10, .inl (cI, 48, .inl z0)), (q13, .inl (cI, 4, .inl z0)), (q16, .inl (cI, 4, .inl z0))]) H18 := hP
  have hD : va_D (va_A [(h0, .inr (4, [.null, .null, .null, .int 0, .int 0, .int 0, .null, .null, .null, .null, .null, .int 0, .int 0, .int 0, .int 0, .null, .int 0, .null]))] s.heap.size) ([(h0, .inr (4, [.ref q1, .ref q4, .ref q7, .int 0, .int 0, .int 0, .ref q10, .ref q13, .ref q16, .null, .null, .int 0, .int 0, .int 0, .int 0, .null, .int 0, .null])), (q1, .inl (cI, 12, .inl z0)), (q4, .inl (cI, 16, .inl z0)), (q7, .inl (cI, 12, .inl z0)), (q10, .inl (cI, 48, .inl z0)), (q13, .inl (cI, 4, .inl z0)), (q16, .inl (cI, 4, .inl z0))]) := hD
  refine lv_aload_n hx hb dX4_init_50 rfl (lv_at hl 0 rfl) ?_
  refine lv_bipush (v := 12) hx hb dX4_init_51 (by decide) ?_
  refine va_newa (atype := .int) (ty := .int) (a0 := (12, .inl z0)) (N' := 12) hx hb (hts (.arrayClass .int) (List.mem_of_getElem? (i := 4) rfl)) rfl hK hP hD hS hA (fun cA => rfl) (by decide) (by decide +kernel) (Nat.le_of_ble_eq_true rfl) (Nat.le_of_ble_eq_true rfl) (Nat.le_of_ble_eq_true rfl) dX4_init_53 (fun q19 cA H20 hK1 hP hD hS => ?_)
  have eA := int_same 0 3 hK rfl hK1 rfl
  rw [eA] at hP hD
  clear eA hK1
  have hP : va_P (dC, dI) vwCl ([(h0, .inr (4, [.ref q1, .ref q4, .ref q7, .int 0, .int 0, .int 0, .ref q10, .ref q13, .ref q16, .null, .null, .int 0, .int 0, .int 0, .int 0, .null, .int 0, .null])), (q1, .inl (cI, 12, .inl z0)), (q4, .inl (cI, 16, .inl z0)), (q7, .inl (cI, 12, .inl z0)), (q10, .inl (cI, 48, .inl z0)), (q13, .inl (cI, 4, .inl z0)), (q16, .inl (cI, 4, .inl z0)), (q19, .inl (cI, 12, .inl z0))]) H20 := hP
  have hD : va_D (va_A [(h0, .inr (4, [.null, .null, .null, .int 0, .int 0, .int 0, .null, .null, .null, .null, .null, .int 0, .int 0, .int 0, .int 0, .null, .int 0, .null]))] s.heap.size) ([(h0, .inr (4, [.ref q1, .ref q4, .ref q7, .int 0, .int 0, .int 0, .ref q10, .ref q13, .ref q16, .null, .null, .int 0, .int 0, .int 0, .int 0, .null, .int 0, .null])), (q1, .inl (cI, 12, .inl z0)), (q4, .inl (cI, 16, .inl z0)), (q7, .inl (cI, 12, .inl z0)), (q10, .inl (cI, 48, .inl z0)), (q13, .inl (cI, 4, .inl z0)), (q16, .inl (cI, 4, .inl z0)), (q19, .inl (cI, 12, .inl z0))]) := hD
  refine W.widen (k := 7) (n := 108) (Nat.le_of_ble_eq_true rfl) (Nat.le_of_ble_eq_true rfl) ?_
  refine va_putF (D := (dC, dI)) (ci := 4) (v := .ref q19) (ty := .array .int) (C := RX4) (T := TX4) (N := 18) hx hb hts hin4 tyX4 tyX4_ok nmX4 hown hK hP hD hS 0 rfl rfl 9 (by decide) (hts (.fieldLink RX4 30 "FeedDesk$State" "signal" "[I") (List.mem_of_getElem? (i := 11) rfl)) (fun _ h9 => h9) rfl hin rfl (by decide +kernel) rfl rfl (Nat.le_of_ble_eq_true rfl) dX4_init_55 (fun H21 locs hP hD hS => ?_)
  have hP : va_P (dC, dI) vwCl ([(h0, .inr (4, [.ref q1, .ref q4, .ref q7, .int 0, .int 0, .int 0, .ref q10, .ref q13, .ref q16, .ref q19, .null, .int 0, .int 0, .int 0, .int 0, .null, .int 0, .null])), (q1, .inl (cI, 12, .inl z0)), (q4, .inl (cI, 16, .inl z0)), (q7, .inl (cI, 12, .inl z0)), (q10, .inl (cI, 48, .inl z0)), (q13, .inl (cI, 4, .inl z0)), (q16, .inl (cI, 4, .inl z0)), (q19, .inl (cI, 12, .inl z0))]) H21 := hP
  have hD : va_D (va_A [(h0, .inr (4, [.null, .null, .null, .int 0, .int 0, .int 0, .null, .null, .null, .null, .null, .int 0, .int 0, .int 0, .int 0, .null, .int 0, .null]))] s.heap.size) ([(h0, .inr (4, [.ref q1, .ref q4, .ref q7, .int 0, .int 0, .int 0, .ref q10, .ref q13, .ref q16, .ref q19, .null, .int 0, .int 0, .int 0, .int 0, .null, .int 0, .null])), (q1, .inl (cI, 12, .inl z0)), (q4, .inl (cI, 16, .inl z0)), (q7, .inl (cI, 12, .inl z0)), (q10, .inl (cI, 48, .inl z0)), (q13, .inl (cI, 4, .inl z0)), (q16, .inl (cI, 4, .inl z0)), (q19, .inl (cI, 12, .inl z0))]) := hD
  refine lv_aload_n hx hb dX4_init_58 rfl (lv_at hl 0 rfl) ?_
  refine lv_iconst (v := 4) hx hb dX4_init_59 (by decide) ?_
  refine va_newa (atype := .int) (ty := .int) (a0 := (4, .inl z0)) (N' := 4) hx hb (hts (.arrayClass .int) (List.mem_of_getElem? (i := 4) rfl)) rfl hK hP hD hS hA (fun cA => rfl) (by decide) (by decide +kernel) (Nat.le_of_ble_eq_true rfl) (Nat.le_of_ble_eq_true rfl) (Nat.le_of_ble_eq_true rfl) dX4_init_60 (fun q22 cA H23 hK1 hP hD hS => ?_)
  have eA := int_same 0 3 hK rfl hK1 rfl
  rw [eA] at hP hD
  clear eA hK1
  have hP : va_P (dC, dI) vwCl ([(h0, .inr (4, [.ref q1, .ref q4, .ref q7, .int 0, .int 0, .int 0, .ref q10, .ref q13, .ref q16, .ref q19, .null, .int 0, .int 0, .int 0, .int 0, .null, .int 0, .null])), (q1, .inl (cI, 12, .inl z0)), (q4, .inl (cI, 16, .inl z0)), (q7, .inl (cI, 12, .inl z0)), (q10, .inl (cI, 48, .inl z0)), (q13, .inl (cI, 4, .inl z0)), (q16, .inl (cI, 4, .inl z0)), (q19, .inl (cI, 12, .inl z0)), (q22, .inl (cI, 4, .inl z0))]) H23 := hP
  have hD : va_D (va_A [(h0, .inr (4, [.null, .null, .null, .int 0, .int 0, .int 0, .null, .null, .null, .null, .null, .int 0, .int 0, .int 0, .int 0, .null, .int 0, .null]))] s.heap.size) ([(h0, .inr (4, [.ref q1, .ref q4, .ref q7, .int 0, .int 0, .int 0, .ref q10, .ref q13, .ref q16, .ref q19, .null, .int 0, .int 0, .int 0, .int 0, .null, .int 0, .null])), (q1, .inl (cI, 12, .inl z0)), (q4, .inl (cI, 16, .inl z0)), (q7, .inl (cI, 12, .inl z0)), (q10, .inl (cI, 48, .inl z0)), (q13, .inl (cI, 4, .inl z0)), (q16, .inl (cI, 4, .inl z0)), (q19, .inl (cI, 12, .inl z0)), (q22, .inl (cI, 4, .inl z0))]) := hD
  refine W.widen (k := 8) (n := 112) (Nat.le_of_ble_eq_true rfl) (Nat.le_of_ble_eq_true rfl) ?_
  refine va_putF (D := (dC, dI)) (ci := 4) (v := .ref q22) (ty := .array .int) (C := RX4) (T := TX4) (N := 18) hx hb hts hin4 tyX4 tyX4_ok nmX4 hown hK hP hD hS 0 rfl rfl 10 (by decide) (hts (.fieldLink RX4 33 "FeedDesk$State" "output" "[I") (List.mem_of_getElem? (i := 12) rfl)) (fun _ h9 => h9) rfl hin rfl (by decide +kernel) rfl rfl (Nat.le_of_ble_eq_true rfl) dX4_init_62 (fun H24 locs hP hD hS => ?_)
  have hP : va_P (dC, dI) vwCl ([(h0, .inr (4, [.ref q1, .ref q4, .ref q7, .int 0, .int 0, .int 0, .ref q10, .ref q13, .ref q16, .ref q19, .ref q22, .int 0, .int 0, .int 0, .int 0, .null, .int 0, .null])), (q1, .inl (cI, 12, .inl z0)), (q4, .inl (cI, 16, .inl z0)), (q7, .inl (cI, 12, .inl z0)), (q10, .inl (cI, 48, .inl z0)), (q13, .inl (cI, 4, .inl z0)), (q16, .inl (cI, 4, .inl z0)), (q19, .inl (cI, 12, .inl z0)), (q22, .inl (cI, 4, .inl z0))]) H24 := hP
  have hD : va_D (va_A [(h0, .inr (4, [.null, .null, .null, .int 0, .int 0, .int 0, .null, .null, .null, .null, .null, .int 0, .int 0, .int 0, .int 0, .null, .int 0, .null]))] s.heap.size) ([(h0, .inr (4, [.ref q1, .ref q4, .ref q7, .int 0, .int 0, .int 0, .ref q10, .ref q13, .ref q16, .ref q19, .ref q22, .int 0, .int 0, .int 0, .int 0, .null, .int 0, .null])), (q1, .inl (cI, 12, .inl z0)), (q4, .inl (cI, 16, .inl z0)), (q7, .inl (cI, 12, .inl z0)), (q10, .inl (cI, 48, .inl z0)), (q13, .inl (cI, 4, .inl z0)), (q16, .inl (cI, 4, .inl z0)), (q19, .inl (cI, 12, .inl z0)), (q22, .inl (cI, 4, .inl z0))]) := hD
  refine lv_aload_n hx hb dX4_init_65 rfl (lv_at hl 0 rfl) ?_
  refine lv_bipush (v := 102) hx hb dX4_init_66 (by decide) ?_
  refine va_newa (atype := .int) (ty := .int) (a0 := (102, .inl z0)) (N' := 102) hx hb (hts (.arrayClass .int) (List.mem_of_getElem? (i := 4) rfl)) rfl hK hP hD hS hA (fun cA => rfl) (by decide) (by decide +kernel) (Nat.le_of_ble_eq_true rfl) (Nat.le_of_ble_eq_true rfl) (Nat.le_of_ble_eq_true rfl) dX4_init_68 (fun q25 cA H26 hK1 hP hD hS => ?_)
  have eA := int_same 0 3 hK rfl hK1 rfl
  rw [eA] at hP hD
  clear eA hK1
  have hP : va_P (dC, dI) vwCl ([(h0, .inr (4, [.ref q1, .ref q4, .ref q7, .int 0, .int 0, .int 0, .ref q10, .ref q13, .ref q16, .ref q19, .ref q22, .int 0, .int 0, .int 0, .int 0, .null, .int 0, .null])), (q1, .inl (cI, 12, .inl z0)), (q4, .inl (cI, 16, .inl z0)), (q7, .inl (cI, 12, .inl z0)), (q10, .inl (cI, 48, .inl z0)), (q13, .inl (cI, 4, .inl z0)), (q16, .inl (cI, 4, .inl z0)), (q19, .inl (cI, 12, .inl z0)), (q22, .inl (cI, 4, .inl z0)), (q25, .inl (cI, 102, .inl z0))]) H26 := hP
  have hD : va_D (va_A [(h0, .inr (4, [.null, .null, .null, .int 0, .int 0, .int 0, .null, .null, .null, .null, .null, .int 0, .int 0, .int 0, .int 0, .null, .int 0, .null]))] s.heap.size) ([(h0, .inr (4, [.ref q1, .ref q4, .ref q7, .int 0, .int 0, .int 0, .ref q10, .ref q13, .ref q16, .ref q19, .ref q22, .int 0, .int 0, .int 0, .int 0, .null, .int 0, .null])), (q1, .inl (cI, 12, .inl z0)), (q4, .inl (cI, 16, .inl z0)), (q7, .inl (cI, 12, .inl z0)), (q10, .inl (cI, 48, .inl z0)), (q13, .inl (cI, 4, .inl z0)), (q16, .inl (cI, 4, .inl z0)), (q19, .inl (cI, 12, .inl z0)), (q22, .inl (cI, 4, .inl z0)), (q25, .inl (cI, 102, .inl z0))]) := hD
  refine W.widen (k := 9) (n := 214) (Nat.le_of_ble_eq_true rfl) (Nat.le_of_ble_eq_true rfl) ?_
  refine va_putF (D := (dC, dI)) (ci := 4) (v := .ref q25) (ty := .array .int) (C := RX4) (T := TX4) (N := 18) hx hb hts hin4 tyX4 tyX4_ok nmX4 hown hK hP hD hS 0 rfl rfl 15 (by decide) (hts (.fieldLink RX4 36 "FeedDesk$State" "scenes" "[I") (List.mem_of_getElem? (i := 13) rfl)) (fun _ h9 => h9) rfl hin rfl (by decide +kernel) rfl rfl (Nat.le_of_ble_eq_true rfl) dX4_init_70 (fun H27 locs hP hD hS => ?_)
  have hP : va_P (dC, dI) vwCl ([(h0, .inr (4, [.ref q1, .ref q4, .ref q7, .int 0, .int 0, .int 0, .ref q10, .ref q13, .ref q16, .ref q19, .ref q22, .int 0, .int 0, .int 0, .int 0, .ref q25, .int 0, .null])), (q1, .inl (cI, 12, .inl z0)), (q4, .inl (cI, 16, .inl z0)), (q7, .inl (cI, 12, .inl z0)), (q10, .inl (cI, 48, .inl z0)), (q13, .inl (cI, 4, .inl z0)), (q16, .inl (cI, 4, .inl z0)), (q19, .inl (cI, 12, .inl z0)), (q22, .inl (cI, 4, .inl z0)), (q25, .inl (cI, 102, .inl z0))]) H27 := hP
  have hD : va_D (va_A [(h0, .inr (4, [.null, .null, .null, .int 0, .int 0, .int 0, .null, .null, .null, .null, .null, .int 0, .int 0, .int 0, .int 0, .null, .int 0, .null]))] s.heap.size) ([(h0, .inr (4, [.ref q1, .ref q4, .ref q7, .int 0, .int 0, .int 0, .ref q10, .ref q13, .ref q16, .ref q19, .ref q22, .int 0, .int 0, .int 0, .int 0, .ref q25, .int 0, .null])), (q1, .inl (cI, 12, .inl z0)), (q4, .inl (cI, 16, .inl z0)), (q7, .inl (cI, 12, .inl z0)), (q10, .inl (cI, 48, .inl z0)), (q13, .inl (cI, 4, .inl z0)), (q16, .inl (cI, 4, .inl z0)), (q19, .inl (cI, 12, .inl z0)), (q22, .inl (cI, 4, .inl z0)), (q25, .inl (cI, 102, .inl z0))]) := hD
  refine lv_aload_n hx hb dX4_init_73 rfl (lv_at hl 0 rfl) ?_
  refine va_new (ci := 0) (fs := [.int 0, .int 0, .int 0, .int 0, .null]) (C := RX0) (T := TX0) (N := 5) hx hb hts hin0 tyX0 tyX0_ok hown (hts (.classLink RX4 39 RX0) (List.mem_of_getElem? (i := 14) rfl)) (hts (.instantiable RX0 5) (List.mem_of_getElem? (i := 15) rfl)) (hts (.initialized RX0) (List.mem_of_getElem? (i := 16) rfl)) hK hP hD hS hA rfl (fun j hj => by rcases (show j = 0 ∨ j = 1 ∨ j = 2 ∨ j = 3 ∨ j = 4 by omega) with rfl | rfl | rfl | rfl | rfl <;> rfl) (Nat.le_of_ble_eq_true rfl) (Nat.le_of_ble_eq_true rfl) dX4_init_74 (fun q28 H29 hP hD hS => ?_)
  have hP : va_P (dC, dI) vwCl ([(h0, .inr (4, [.ref q1, .ref q4, .ref q7, .int 0, .int 0, .int 0, .ref q10, .ref q13, .ref q16, .ref q19, .ref q22, .int 0, .int 0, .int 0, .int 0, .ref q25, .int 0, .null])), (q1, .inl (cI, 12, .inl z0)), (q4, .inl (cI, 16, .inl z0)), (q7, .inl (cI, 12, .inl z0)), (q10, .inl (cI, 48, .inl z0)), (q13, .inl (cI, 4, .inl z0)), (q16, .inl (cI, 4, .inl z0)), (q19, .inl (cI, 12, .inl z0)), (q22, .inl (cI, 4, .inl z0)), (q25, .inl (cI, 102, .inl z0))] ++ [(q28, .inr (0, [.int 0, .int 0, .int 0, .int 0, .null]))]) H29 := hP
  have hD : va_D (va_A [(h0, .inr (4, [.null, .null, .null, .int 0, .int 0, .int 0, .null, .null, .null, .null, .null, .int 0, .int 0, .int 0, .int 0, .null, .int 0, .null]))] s.heap.size) ([(h0, .inr (4, [.ref q1, .ref q4, .ref q7, .int 0, .int 0, .int 0, .ref q10, .ref q13, .ref q16, .ref q19, .ref q22, .int 0, .int 0, .int 0, .int 0, .ref q25, .int 0, .null])), (q1, .inl (cI, 12, .inl z0)), (q4, .inl (cI, 16, .inl z0)), (q7, .inl (cI, 12, .inl z0)), (q10, .inl (cI, 48, .inl z0)), (q13, .inl (cI, 4, .inl z0)), (q16, .inl (cI, 4, .inl z0)), (q19, .inl (cI, 12, .inl z0)), (q22, .inl (cI, 4, .inl z0)), (q25, .inl (cI, 102, .inl z0))] ++ [(q28, .inr (0, [.int 0, .int 0, .int 0, .int 0, .null]))]) := hD
  refine W.widen (k := 10) (n := 219) (Nat.le_of_ble_eq_true rfl) (Nat.le_of_ble_eq_true rfl) ?_
  refine lv_dup hx hb dX4_init_77 rfl ?_
  have hPc : va_P (dC, dI) vwCl [(q28, .inr (0, [.int 0, .int 0, .int 0, .int 0, .null]))] H29 := hP.sub [10] rfl
  have hDc : va_D (va_A [(h0, .inr (4, [.null, .null, .null, .int 0, .int 0, .int 0, .null, .null, .null, .null, .null, .int 0, .int 0, .int 0, .int 0, .null, .int 0, .null]))] s.heap.size) [(q28, .inr (0, [.int 0, .int 0, .int 0, .int 0, .null]))] := hD.sub [10] (by decide) rfl
  have hFc : ∀ q : Nat, va_A [(q28, .inr (0, [.int 0, .int 0, .int 0, .int 0, .null]))] H29.size q → va_A [(h0, .inr (4, [.null, .null, .null, .int 0, .int 0, .int 0, .null, .null, .null, .null, .null, .int 0, .int 0, .int 0, .int 0, .null, .int 0, .null]))] s.heap.size q := va_free hD hS hA [10] rfl
  refine va_callv (va_runIN (As := []) (rest := [.ref q28, .ref h0]) ⟨hx, hb, hml, hown, hts⟩ (c_X0_init l dC dI cI cC cS q28  H29.size) ⟨va_cnB 0 hts gX4_init_X0_init_n41 rfl rfl rfl (hN.at 0 rfl) (hts (.initialized RX0) (List.mem_of_getElem? (i := 16) rfl)) (by decide +kernel) ⟨(Nat.le_of_ble_eq_true rfl), (Nat.le_of_ble_eq_true rfl)⟩, rfl, (hts (.instanceMethod yX0_init) (List.mem_of_getElem? (i := 18) rfl))⟩ (pN hK hPc hDc hN hO) rfl rfl hl.1 rfl (lv_room (Nat.le_of_ble_eq_true rfl)) dX4_init_78 ⟨(Nat.le_of_ble_eq_true rfl), (Nat.le_of_ble_eq_true rfl)⟩) hS (fun q _ h => hFc q h) hFc (fun u30 t_u30 H31 locs ht hvm hw hB hz1 hk1 hS => ?_)
  obtain ⟨hP1, hD1⟩ := hB
  rw [ht] at hP1
  subst hw
  obtain ⟨hP, hD⟩ := va_join (wc := [((u30 0), .inr (0, [.int 0, .int 0, .int 0, .int 0, .null]))]) (wr := [(h0, .inr (4, [.ref q1, .ref q4, .ref q7, .int 0, .int 0, .int 0, .ref q10, .ref q13, .ref q16, .ref q19, .ref q22, .int 0, .int 0, .int 0, .int 0, .ref q25, .int 0, .null])), (q1, .inl (cI, 12, .inl z0)), (q4, .inl (cI, 16, .inl z0)), (q7, .inl (cI, 12, .inl z0)), (q10, .inl (cI, 48, .inl z0)), (q13, .inl (cI, 4, .inl z0)), (q16, .inl (cI, 4, .inl z0)), (q19, .inl (cI, 12, .inl z0)), (q22, .inl (cI, 4, .inl z0)), (q25, .inl (cI, 102, .inl z0))]) (w1 := cFd u30 cI Z0) hP hD [10] [0, 1, 2, 3, 4, 5, 6, 7, 8, 9] rfl rfl (by decide) (by decide) hk1 hFc hP1 hD1
  have hP : va_P (dC, dI) vwCl ([(h0, .inr (4, [.ref q1, .ref q4, .ref q7, .int 0, .int 0, .int 0, .ref q10, .ref q13, .ref q16, .ref q19, .ref q22, .int 0, .int 0, .int 0, .int 0, .ref q25, .int 0, .null])), (q1, .inl (cI, 12, .inl z0)), (q4, .inl (cI, 16, .inl z0)), (q7, .inl (cI, 12, .inl z0)), (q10, .inl (cI, 48, .inl z0)), (q13, .inl (cI, 4, .inl z0)), (q16, .inl (cI, 4, .inl z0)), (q19, .inl (cI, 12, .inl z0)), (q22, .inl (cI, 4, .inl z0)), (q25, .inl (cI, 102, .inl z0))] ++ cFd u30 cI Z0) H31 := hP
  have hD : va_D (va_A [(h0, .inr (4, [.null, .null, .null, .int 0, .int 0, .int 0, .null, .null, .null, .null, .null, .int 0, .int 0, .int 0, .int 0, .null, .int 0, .null]))] s.heap.size) ([(h0, .inr (4, [.ref q1, .ref q4, .ref q7, .int 0, .int 0, .int 0, .ref q10, .ref q13, .ref q16, .ref q19, .ref q22, .int 0, .int 0, .int 0, .int 0, .ref q25, .int 0, .null])), (q1, .inl (cI, 12, .inl z0)), (q4, .inl (cI, 16, .inl z0)), (q7, .inl (cI, 12, .inl z0)), (q10, .inl (cI, 48, .inl z0)), (q13, .inl (cI, 4, .inl z0)), (q16, .inl (cI, 4, .inl z0)), (q19, .inl (cI, 12, .inl z0)), (q22, .inl (cI, 4, .inl z0)), (q25, .inl (cI, 102, .inl z0))] ++ cFd u30 cI Z0) := hD
  refine W.widen (k := 11) (n := 235) (Nat.le_of_ble_eq_true rfl) (Nat.le_of_ble_eq_true rfl) ?_
  refine va_putF (D := (dC, dI)) (ci := 4) (v := .ref (u30 0)) (ty := .object "FeedDesk$Fade") (C := RX4) (T := TX4) (N := 18) hx hb hts hin4 tyX4 tyX4_ok nmX4 hown hK hP hD hS 0 rfl rfl 17 (by decide) (hts (.fieldLink RX4 42 "FeedDesk$State" "fade" "LFeedDesk$Fade;") (List.mem_of_getElem? (i := 17) rfl)) (fun _ h9 => h9) rfl hin rfl (by decide +kernel) rfl rfl (Nat.le_of_ble_eq_true rfl) dX4_init_81 (fun H32 locs hP hD hS => ?_)
  have hP : va_P (dC, dI) vwCl ([(h0, .inr (4, [.ref q1, .ref q4, .ref q7, .int 0, .int 0, .int 0, .ref q10, .ref q13, .ref q16, .ref q19, .ref q22, .int 0, .int 0, .int 0, .int 0, .ref q25, .int 0, .ref (u30 0)])), (q1, .inl (cI, 12, .inl z0)), (q4, .inl (cI, 16, .inl z0)), (q7, .inl (cI, 12, .inl z0)), (q10, .inl (cI, 48, .inl z0)), (q13, .inl (cI, 4, .inl z0)), (q16, .inl (cI, 4, .inl z0)), (q19, .inl (cI, 12, .inl z0)), (q22, .inl (cI, 4, .inl z0)), (q25, .inl (cI, 102, .inl z0))] ++ cFd u30 cI Z0) H32 := hP
  have hD : va_D (va_A [(h0, .inr (4, [.null, .null, .null, .int 0, .int 0, .int 0, .null, .null, .null, .null, .null, .int 0, .int 0, .int 0, .int 0, .null, .int 0, .null]))] s.heap.size) ([(h0, .inr (4, [.ref q1, .ref q4, .ref q7, .int 0, .int 0, .int 0, .ref q10, .ref q13, .ref q16, .ref q19, .ref q22, .int 0, .int 0, .int 0, .int 0, .ref q25, .int 0, .ref (u30 0)])), (q1, .inl (cI, 12, .inl z0)), (q4, .inl (cI, 16, .inl z0)), (q7, .inl (cI, 12, .inl z0)), (q10, .inl (cI, 48, .inl z0)), (q13, .inl (cI, 4, .inl z0)), (q16, .inl (cI, 4, .inl z0)), (q19, .inl (cI, 12, .inl z0)), (q22, .inl (cI, 4, .inl z0)), (q25, .inl (cI, 102, .inl z0))] ++ cFd u30 cI Z0) := hD
  refine lv_iconst (v := 0) hx hb dX4_init_84 (by decide) ?_
  refine lv_istore_n (lv' := [(1, .int 0), (0, .ref h0)]) hx hb dX4_init_85 rfl hl (by decide) rfl (fun ls hl => ?_)
  refine lv_iload_n hx hb dX4_init_86 rfl (lv_at hl 0 rfl) ?_
  refine lv_iconst (v := 4) hx hb dX4_init_87 (by decide) ?_
  refine lv_icmp_ge (tgt := 108) hx hb dX4_init_88 (by decide) (fun c33 => absurd c33 (by decide)) (fun c33 => ?_)
  refine lv_aload_n hx hb dX4_init_91 rfl (lv_at hl 1 rfl) ?_
  refine va_get (D := (dC, dI)) (ci := 4) (v := .ref q4) (C := RX4) (T := TX4) (N := 18) hx hb hts hin4 hown hK hP 0 rfl rfl 1 (by decide) (hts (.fieldLink RX4 15 "FeedDesk$State" "sliders" "[I") (List.mem_of_getElem? (i := 6) rfl)) (fun _ h9 => h9) rfl dX4_init_92 ?_
  refine lv_bipush (v := 12) hx hb dX4_init_95 (by decide) ?_
  refine lv_iload_n hx hb dX4_init_97 rfl (lv_at hl 0 rfl) ?_
  refine lv_iadd hx hb dX4_init_98 ?_
  rw [show (12 : Int32) + (0 : Int32) = (12 : Int32) from by decide]
  refine lv_bipush (v := 100) hx hb dX4_init_99 (by decide) ?_
  refine va_iast (f := z0) hx hb hK hP hD hS 2 0 rfl rfl (vp_of_B (by decide +kernel)) dX4_init_101 (fun H34 locs hP hD hS => ?_)
  have hP : va_P (dC, dI) vwCl ([(h0, .inr (4, [.ref q1, .ref q4, .ref q7, .int 0, .int 0, .int 0, .ref q10, .ref q13, .ref q16, .ref q19, .ref q22, .int 0, .int 0, .int 0, .int 0, .ref q25, .int 0, .ref (u30 0)])), (q1, .inl (cI, 12, .inl z0)), (q4, .inl (cI, 16, .inl (upd z0 12 100))), (q7, .inl (cI, 12, .inl z0)), (q10, .inl (cI, 48, .inl z0)), (q13, .inl (cI, 4, .inl z0)), (q16, .inl (cI, 4, .inl z0)), (q19, .inl (cI, 12, .inl z0)), (q22, .inl (cI, 4, .inl z0)), (q25, .inl (cI, 102, .inl z0))] ++ cFd u30 cI Z0) H34 := hP
  have hD : va_D (va_A [(h0, .inr (4, [.null, .null, .null, .int 0, .int 0, .int 0, .null, .null, .null, .null, .null, .int 0, .int 0, .int 0, .int 0, .null, .int 0, .null]))] s.heap.size) ([(h0, .inr (4, [.ref q1, .ref q4, .ref q7, .int 0, .int 0, .int 0, .ref q10, .ref q13, .ref q16, .ref q19, .ref q22, .int 0, .int 0, .int 0, .int 0, .ref q25, .int 0, .ref (u30 0)])), (q1, .inl (cI, 12, .inl z0)), (q4, .inl (cI, 16, .inl (upd z0 12 100))), (q7, .inl (cI, 12, .inl z0)), (q10, .inl (cI, 48, .inl z0)), (q13, .inl (cI, 4, .inl z0)), (q16, .inl (cI, 4, .inl z0)), (q19, .inl (cI, 12, .inl z0)), (q22, .inl (cI, 4, .inl z0)), (q25, .inl (cI, 102, .inl z0))] ++ cFd u30 cI Z0) := hD
  refine lv_iinc (v := 1) (lv' := [(1, .int 1), (0, .ref h0)]) hx hb dX4_init_102 hl (k := 0) rfl (by decide) (by decide) rfl (fun ls hl => ?_)
  refine lv_goto (tgt := 86) hx hb dX4_init_105 (by decide) ?_
  refine lv_iload_n hx hb dX4_init_86 rfl (lv_at hl 0 rfl) ?_
  refine lv_iconst (v := 4) hx hb dX4_init_87 (by decide) ?_
  refine lv_icmp_ge (tgt := 108) hx hb dX4_init_88 (by decide) (fun c35 => absurd c35 (by decide)) (fun c35 => ?_)
  refine lv_aload_n hx hb dX4_init_91 rfl (lv_at hl 1 rfl) ?_
  refine va_get (D := (dC, dI)) (ci := 4) (v := .ref q4) (C := RX4) (T := TX4) (N := 18) hx hb hts hin4 hown hK hP 0 rfl rfl 1 (by decide) (hts (.fieldLink RX4 15 "FeedDesk$State" "sliders" "[I") (List.mem_of_getElem? (i := 6) rfl)) (fun _ h9 => h9) rfl dX4_init_92 ?_
  refine lv_bipush (v := 12) hx hb dX4_init_95 (by decide) ?_
  refine lv_iload_n hx hb dX4_init_97 rfl (lv_at hl 0 rfl) ?_
  refine lv_iadd hx hb dX4_init_98 ?_
  rw [show (12 : Int32) + (1 : Int32) = (13 : Int32) from by decide]
  refine lv_bipush (v := 100) hx hb dX4_init_99 (by decide) ?_
  refine va_iast (f := upd z0 12 100) hx hb hK hP hD hS 2 0 rfl rfl (vp_of_B (by decide +kernel)) dX4_init_101 (fun H36 locs hP hD hS => ?_)
  have hP : va_P (dC, dI) vwCl ([(h0, .inr (4, [.ref q1, .ref q4, .ref q7, .int 0, .int 0, .int 0, .ref q10, .ref q13, .ref q16, .ref q19, .ref q22, .int 0, .int 0, .int 0, .int 0, .ref q25, .int 0, .ref (u30 0)])), (q1, .inl (cI, 12, .inl z0)), (q4, .inl (cI, 16, .inl (upd (upd z0 12 100) 13 100))), (q7, .inl (cI, 12, .inl z0)), (q10, .inl (cI, 48, .inl z0)), (q13, .inl (cI, 4, .inl z0)), (q16, .inl (cI, 4, .inl z0)), (q19, .inl (cI, 12, .inl z0)), (q22, .inl (cI, 4, .inl z0)), (q25, .inl (cI, 102, .inl z0))] ++ cFd u30 cI Z0) H36 := hP
  have hD : va_D (va_A [(h0, .inr (4, [.null, .null, .null, .int 0, .int 0, .int 0, .null, .null, .null, .null, .null, .int 0, .int 0, .int 0, .int 0, .null, .int 0, .null]))] s.heap.size) ([(h0, .inr (4, [.ref q1, .ref q4, .ref q7, .int 0, .int 0, .int 0, .ref q10, .ref q13, .ref q16, .ref q19, .ref q22, .int 0, .int 0, .int 0, .int 0, .ref q25, .int 0, .ref (u30 0)])), (q1, .inl (cI, 12, .inl z0)), (q4, .inl (cI, 16, .inl (upd (upd z0 12 100) 13 100))), (q7, .inl (cI, 12, .inl z0)), (q10, .inl (cI, 48, .inl z0)), (q13, .inl (cI, 4, .inl z0)), (q16, .inl (cI, 4, .inl z0)), (q19, .inl (cI, 12, .inl z0)), (q22, .inl (cI, 4, .inl z0)), (q25, .inl (cI, 102, .inl z0))] ++ cFd u30 cI Z0) := hD
  refine lv_iinc (v := 2) (lv' := [(1, .int 2), (0, .ref h0)]) hx hb dX4_init_102 hl (k := 0) rfl (by decide) (by decide) rfl (fun ls hl => ?_)
  refine lv_goto (tgt := 86) hx hb dX4_init_105 (by decide) ?_
  refine lv_iload_n hx hb dX4_init_86 rfl (lv_at hl 0 rfl) ?_
  refine lv_iconst (v := 4) hx hb dX4_init_87 (by decide) ?_
  refine lv_icmp_ge (tgt := 108) hx hb dX4_init_88 (by decide) (fun c37 => absurd c37 (by decide)) (fun c37 => ?_)
  refine lv_aload_n hx hb dX4_init_91 rfl (lv_at hl 1 rfl) ?_
  refine va_get (D := (dC, dI)) (ci := 4) (v := .ref q4) (C := RX4) (T := TX4) (N := 18) hx hb hts hin4 hown hK hP 0 rfl rfl 1 (by decide) (hts (.fieldLink RX4 15 "FeedDesk$State" "sliders" "[I") (List.mem_of_getElem? (i := 6) rfl)) (fun _ h9 => h9) rfl dX4_init_92 ?_
  refine lv_bipush (v := 12) hx hb dX4_init_95 (by decide) ?_
  refine lv_iload_n hx hb dX4_init_97 rfl (lv_at hl 0 rfl) ?_
  refine lv_iadd hx hb dX4_init_98 ?_
  rw [show (12 : Int32) + (2 : Int32) = (14 : Int32) from by decide]
  refine lv_bipush (v := 100) hx hb dX4_init_99 (by decide) ?_
  refine va_iast (f := upd (upd z0 12 100) 13 100) hx hb hK hP hD hS 2 0 rfl rfl (vp_of_B (by decide +kernel)) dX4_init_101 (fun H38 locs hP hD hS => ?_)
  have hP : va_P (dC, dI) vwCl ([(h0, .inr (4, [.ref q1, .ref q4, .ref q7, .int 0, .int 0, .int 0, .ref q10, .ref q13, .ref q16, .ref q19, .ref q22, .int 0, .int 0, .int 0, .int 0, .ref q25, .int 0, .ref (u30 0)])), (q1, .inl (cI, 12, .inl z0)), (q4, .inl (cI, 16, .inl (upd (upd (upd z0 12 100) 13 100) 14 100))), (q7, .inl (cI, 12, .inl z0)), (q10, .inl (cI, 48, .inl z0)), (q13, .inl (cI, 4, .inl z0)), (q16, .inl (cI, 4, .inl z0)), (q19, .inl (cI, 12, .inl z0)), (q22, .inl (cI, 4, .inl z0)), (q25, .inl (cI, 102, .inl z0))] ++ cFd u30 cI Z0) H38 := hP
  have hD : va_D (va_A [(h0, .inr (4, [.null, .null, .null, .int 0, .int 0, .int 0, .null, .null, .null, .null, .null, .int 0, .int 0, .int 0, .int 0, .null, .int 0, .null]))] s.heap.size) ([(h0, .inr (4, [.ref q1, .ref q4, .ref q7, .int 0, .int 0, .int 0, .ref q10, .ref q13, .ref q16, .ref q19, .ref q22, .int 0, .int 0, .int 0, .int 0, .ref q25, .int 0, .ref (u30 0)])), (q1, .inl (cI, 12, .inl z0)), (q4, .inl (cI, 16, .inl (upd (upd (upd z0 12 100) 13 100) 14 100))), (q7, .inl (cI, 12, .inl z0)), (q10, .inl (cI, 48, .inl z0)), (q13, .inl (cI, 4, .inl z0)), (q16, .inl (cI, 4, .inl z0)), (q19, .inl (cI, 12, .inl z0)), (q22, .inl (cI, 4, .inl z0)), (q25, .inl (cI, 102, .inl z0))] ++ cFd u30 cI Z0) := hD
  refine lv_iinc (v := 3) (lv' := [(1, .int 3), (0, .ref h0)]) hx hb dX4_init_102 hl (k := 0) rfl (by decide) (by decide) rfl (fun ls hl => ?_)
  refine lv_goto (tgt := 86) hx hb dX4_init_105 (by decide) ?_
  refine lv_iload_n hx hb dX4_init_86 rfl (lv_at hl 0 rfl) ?_
  refine lv_iconst (v := 4) hx hb dX4_init_87 (by decide) ?_
  refine lv_icmp_ge (tgt := 108) hx hb dX4_init_88 (by decide) (fun c39 => absurd c39 (by decide)) (fun c39 => ?_)
  refine lv_aload_n hx hb dX4_init_91 rfl (lv_at hl 1 rfl) ?_
  refine va_get (D := (dC, dI)) (ci := 4) (v := .ref q4) (C := RX4) (T := TX4) (N := 18) hx hb hts hin4 hown hK hP 0 rfl rfl 1 (by decide) (hts (.fieldLink RX4 15 "FeedDesk$State" "sliders" "[I") (List.mem_of_getElem? (i := 6) rfl)) (fun _ h9 => h9) rfl dX4_init_92 ?_
  refine lv_bipush (v := 12) hx hb dX4_init_95 (by decide) ?_
  refine lv_iload_n hx hb dX4_init_97 rfl (lv_at hl 0 rfl) ?_
  refine lv_iadd hx hb dX4_init_98 ?_
  rw [show (12 : Int32) + (3 : Int32) = (15 : Int32) from by decide]
  refine lv_bipush (v := 100) hx hb dX4_init_99 (by decide) ?_
  refine va_iast (f := upd (upd (upd z0 12 100) 13 100) 14 100) hx hb hK hP hD hS 2 0 rfl rfl (vp_of_B (by decide +kernel)) dX4_init_101 (fun H40 locs hP hD hS => ?_)
  have hP : va_P (dC, dI) vwCl ([(h0, .inr (4, [.ref q1, .ref q4, .ref q7, .int 0, .int 0, .int 0, .ref q10, .ref q13, .ref q16, .ref q19, .ref q22, .int 0, .int 0, .int 0, .int 0, .ref q25, .int 0, .ref (u30 0)])), (q1, .inl (cI, 12, .inl z0)), (q4, .inl (cI, 16, .inl (upd (upd (upd (upd z0 12 100) 13 100) 14 100) 15 100))), (q7, .inl (cI, 12, .inl z0)), (q10, .inl (cI, 48, .inl z0)), (q13, .inl (cI, 4, .inl z0)), (q16, .inl (cI, 4, .inl z0)), (q19, .inl (cI, 12, .inl z0)), (q22, .inl (cI, 4, .inl z0)), (q25, .inl (cI, 102, .inl z0))] ++ cFd u30 cI Z0) H40 := hP
  have hD : va_D (va_A [(h0, .inr (4, [.null, .null, .null, .int 0, .int 0, .int 0, .null, .null, .null, .null, .null, .int 0, .int 0, .int 0, .int 0, .null, .int 0, .null]))] s.heap.size) ([(h0, .inr (4, [.ref q1, .ref q4, .ref q7, .int 0, .int 0, .int 0, .ref q10, .ref q13, .ref q16, .ref q19, .ref q22, .int 0, .int 0, .int 0, .int 0, .ref q25, .int 0, .ref (u30 0)])), (q1, .inl (cI, 12, .inl z0)), (q4, .inl (cI, 16, .inl (upd (upd (upd (upd z0 12 100) 13 100) 14 100) 15 100))), (q7, .inl (cI, 12, .inl z0)), (q10, .inl (cI, 48, .inl z0)), (q13, .inl (cI, 4, .inl z0)), (q16, .inl (cI, 4, .inl z0)), (q19, .inl (cI, 12, .inl z0)), (q22, .inl (cI, 4, .inl z0)), (q25, .inl (cI, 102, .inl z0))] ++ cFd u30 cI Z0) := hD
  refine lv_iinc (v := 4) (lv' := [(1, .int 4), (0, .ref h0)]) hx hb dX4_init_102 hl (k := 0) rfl (by decide) (by decide) rfl (fun ls hl => ?_)
  refine lv_goto (tgt := 86) hx hb dX4_init_105 (by decide) ?_
  refine lv_iload_n hx hb dX4_init_86 rfl (lv_at hl 0 rfl) ?_
  refine lv_iconst (v := 4) hx hb dX4_init_87 (by decide) ?_
  refine lv_icmp_ge (tgt := 108) hx hb dX4_init_88 (by decide) (fun c41 => ?_) (fun c41 => absurd (by decide) c41)
  refine lv_iconst (v := 0) hx hb dX4_init_108 (by decide) ?_
  refine lv_istore_n (lv' := [(1, .int 0), (0, .ref h0)]) hx hb dX4_init_109 rfl hl (by decide) rfl (fun ls hl => ?_)
  refine lv_iload_n hx hb dX4_init_110 rfl (lv_at hl 0 rfl) ?_
  refine lv_iconst (v := 4) hx hb dX4_init_111 (by decide) ?_
  refine lv_icmp_ge (tgt := 128) hx hb dX4_init_112 (by decide) (fun c42 => absurd c42 (by decide)) (fun c42 => ?_)
  refine lv_aload_n hx hb dX4_init_115 rfl (lv_at hl 1 rfl) ?_
  refine va_get (D := (dC, dI)) (ci := 4) (v := .ref q16) (C := RX4) (T := TX4) (N := 18) hx hb hts hin4 hown hK hP 0 rfl rfl 8 (by decide) (hts (.fieldLink RX4 27 "FeedDesk$State" "returns" "[I") (List.mem_of_getElem? (i := 10) rfl)) (fun _ h9 => h9) rfl dX4_init_116 ?_
  refine lv_iload_n hx hb dX4_init_119 rfl (lv_at hl 0 rfl) ?_
  refine lv_iconst (v := (-1)) hx hb dX4_init_120 (by decide) ?_
  refine va_iast (f := z0) hx hb hK hP hD hS 6 0 rfl rfl (vp_of_B (by decide +kernel)) dX4_init_121 (fun H43 locs hP hD hS => ?_)
  have hP : va_P (dC, dI) vwCl ([(h0, .inr (4, [.ref q1, .ref q4, .ref q7, .int 0, .int 0, .int 0, .ref q10, .ref q13, .ref q16, .ref q19, .ref q22, .int 0, .int 0, .int 0, .int 0, .ref q25, .int 0, .ref (u30 0)])), (q1, .inl (cI, 12, .inl z0)), (q4, .inl (cI, 16, .inl (upd (upd (upd (upd z0 12 100) 13 100) 14 100) 15 100))), (q7, .inl (cI, 12, .inl z0)), (q10, .inl (cI, 48, .inl z0)), (q13, .inl (cI, 4, .inl z0)), (q16, .inl (cI, 4, .inl (upd z0 0 (-1)))), (q19, .inl (cI, 12, .inl z0)), (q22, .inl (cI, 4, .inl z0)), (q25, .inl (cI, 102, .inl z0))] ++ cFd u30 cI Z0) H43 := hP
  have hD : va_D (va_A [(h0, .inr (4, [.null, .null, .null, .int 0, .int 0, .int 0, .null, .null, .null, .null, .null, .int 0, .int 0, .int 0, .int 0, .null, .int 0, .null]))] s.heap.size) ([(h0, .inr (4, [.ref q1, .ref q4, .ref q7, .int 0, .int 0, .int 0, .ref q10, .ref q13, .ref q16, .ref q19, .ref q22, .int 0, .int 0, .int 0, .int 0, .ref q25, .int 0, .ref (u30 0)])), (q1, .inl (cI, 12, .inl z0)), (q4, .inl (cI, 16, .inl (upd (upd (upd (upd z0 12 100) 13 100) 14 100) 15 100))), (q7, .inl (cI, 12, .inl z0)), (q10, .inl (cI, 48, .inl z0)), (q13, .inl (cI, 4, .inl z0)), (q16, .inl (cI, 4, .inl (upd z0 0 (-1)))), (q19, .inl (cI, 12, .inl z0)), (q22, .inl (cI, 4, .inl z0)), (q25, .inl (cI, 102, .inl z0))] ++ cFd u30 cI Z0) := hD
  refine lv_iinc (v := 1) (lv' := [(1, .int 1), (0, .ref h0)]) hx hb dX4_init_122 hl (k := 0) rfl (by decide) (by decide) rfl (fun ls hl => ?_)
  refine lv_goto (tgt := 110) hx hb dX4_init_125 (by decide) ?_
  refine lv_iload_n hx hb dX4_init_110 rfl (lv_at hl 0 rfl) ?_
  refine lv_iconst (v := 4) hx hb dX4_init_111 (by decide) ?_
  refine lv_icmp_ge (tgt := 128) hx hb dX4_init_112 (by decide) (fun c44 => absurd c44 (by decide)) (fun c44 => ?_)
  refine lv_aload_n hx hb dX4_init_115 rfl (lv_at hl 1 rfl) ?_
  refine va_get (D := (dC, dI)) (ci := 4) (v := .ref q16) (C := RX4) (T := TX4) (N := 18) hx hb hts hin4 hown hK hP 0 rfl rfl 8 (by decide) (hts (.fieldLink RX4 27 "FeedDesk$State" "returns" "[I") (List.mem_of_getElem? (i := 10) rfl)) (fun _ h9 => h9) rfl dX4_init_116 ?_
  refine lv_iload_n hx hb dX4_init_119 rfl (lv_at hl 0 rfl) ?_
  refine lv_iconst (v := (-1)) hx hb dX4_init_120 (by decide) ?_
  refine va_iast (f := upd z0 0 (-1)) hx hb hK hP hD hS 6 0 rfl rfl (vp_of_B (by decide +kernel)) dX4_init_121 (fun H45 locs hP hD hS => ?_)
  have hP : va_P (dC, dI) vwCl ([(h0, .inr (4, [.ref q1, .ref q4, .ref q7, .int 0, .int 0, .int 0, .ref q10, .ref q13, .ref q16, .ref q19, .ref q22, .int 0, .int 0, .int 0, .int 0, .ref q25, .int 0, .ref (u30 0)])), (q1, .inl (cI, 12, .inl z0)), (q4, .inl (cI, 16, .inl (upd (upd (upd (upd z0 12 100) 13 100) 14 100) 15 100))), (q7, .inl (cI, 12, .inl z0)), (q10, .inl (cI, 48, .inl z0)), (q13, .inl (cI, 4, .inl z0)), (q16, .inl (cI, 4, .inl (upd (upd z0 0 (-1)) 1 (-1)))), (q19, .inl (cI, 12, .inl z0)), (q22, .inl (cI, 4, .inl z0)), (q25, .inl (cI, 102, .inl z0))] ++ cFd u30 cI Z0) H45 := hP
  have hD : va_D (va_A [(h0, .inr (4, [.null, .null, .null, .int 0, .int 0, .int 0, .null, .null, .null, .null, .null, .int 0, .int 0, .int 0, .int 0, .null, .int 0, .null]))] s.heap.size) ([(h0, .inr (4, [.ref q1, .ref q4, .ref q7, .int 0, .int 0, .int 0, .ref q10, .ref q13, .ref q16, .ref q19, .ref q22, .int 0, .int 0, .int 0, .int 0, .ref q25, .int 0, .ref (u30 0)])), (q1, .inl (cI, 12, .inl z0)), (q4, .inl (cI, 16, .inl (upd (upd (upd (upd z0 12 100) 13 100) 14 100) 15 100))), (q7, .inl (cI, 12, .inl z0)), (q10, .inl (cI, 48, .inl z0)), (q13, .inl (cI, 4, .inl z0)), (q16, .inl (cI, 4, .inl (upd (upd z0 0 (-1)) 1 (-1)))), (q19, .inl (cI, 12, .inl z0)), (q22, .inl (cI, 4, .inl z0)), (q25, .inl (cI, 102, .inl z0))] ++ cFd u30 cI Z0) := hD
  refine lv_iinc (v := 2) (lv' := [(1, .int 2), (0, .ref h0)]) hx hb dX4_init_122 hl (k := 0) rfl (by decide) (by decide) rfl (fun ls hl => ?_)
  refine lv_goto (tgt := 110) hx hb dX4_init_125 (by decide) ?_
  refine lv_iload_n hx hb dX4_init_110 rfl (lv_at hl 0 rfl) ?_
  refine lv_iconst (v := 4) hx hb dX4_init_111 (by decide) ?_
  refine lv_icmp_ge (tgt := 128) hx hb dX4_init_112 (by decide) (fun c46 => absurd c46 (by decide)) (fun c46 => ?_)
  refine lv_aload_n hx hb dX4_init_115 rfl (lv_at hl 1 rfl) ?_
  refine va_get (D := (dC, dI)) (ci := 4) (v := .ref q16) (C := RX4) (T := TX4) (N := 18) hx hb hts hin4 hown hK hP 0 rfl rfl 8 (by decide) (hts (.fieldLink RX4 27 "FeedDesk$State" "returns" "[I") (List.mem_of_getElem? (i := 10) rfl)) (fun _ h9 => h9) rfl dX4_init_116 ?_
  refine lv_iload_n hx hb dX4_init_119 rfl (lv_at hl 0 rfl) ?_
  refine lv_iconst (v := (-1)) hx hb dX4_init_120 (by decide) ?_
  refine va_iast (f := upd (upd z0 0 (-1)) 1 (-1)) hx hb hK hP hD hS 6 0 rfl rfl (vp_of_B (by decide +kernel)) dX4_init_121 (fun H47 locs hP hD hS => ?_)
  have hP : va_P (dC, dI) vwCl ([(h0, .inr (4, [.ref q1, .ref q4, .ref q7, .int 0, .int 0, .int 0, .ref q10, .ref q13, .ref q16, .ref q19, .ref q22, .int 0, .int 0, .int 0, .int 0, .ref q25, .int 0, .ref (u30 0)])), (q1, .inl (cI, 12, .inl z0)), (q4, .inl (cI, 16, .inl (upd (upd (upd (upd z0 12 100) 13 100) 14 100) 15 100))), (q7, .inl (cI, 12, .inl z0)), (q10, .inl (cI, 48, .inl z0)), (q13, .inl (cI, 4, .inl z0)), (q16, .inl (cI, 4, .inl (upd (upd (upd z0 0 (-1)) 1 (-1)) 2 (-1)))), (q19, .inl (cI, 12, .inl z0)), (q22, .inl (cI, 4, .inl z0)), (q25, .inl (cI, 102, .inl z0))] ++ cFd u30 cI Z0) H47 := hP
  have hD : va_D (va_A [(h0, .inr (4, [.null, .null, .null, .int 0, .int 0, .int 0, .null, .null, .null, .null, .null, .int 0, .int 0, .int 0, .int 0, .null, .int 0, .null]))] s.heap.size) ([(h0, .inr (4, [.ref q1, .ref q4, .ref q7, .int 0, .int 0, .int 0, .ref q10, .ref q13, .ref q16, .ref q19, .ref q22, .int 0, .int 0, .int 0, .int 0, .ref q25, .int 0, .ref (u30 0)])), (q1, .inl (cI, 12, .inl z0)), (q4, .inl (cI, 16, .inl (upd (upd (upd (upd z0 12 100) 13 100) 14 100) 15 100))), (q7, .inl (cI, 12, .inl z0)), (q10, .inl (cI, 48, .inl z0)), (q13, .inl (cI, 4, .inl z0)), (q16, .inl (cI, 4, .inl (upd (upd (upd z0 0 (-1)) 1 (-1)) 2 (-1)))), (q19, .inl (cI, 12, .inl z0)), (q22, .inl (cI, 4, .inl z0)), (q25, .inl (cI, 102, .inl z0))] ++ cFd u30 cI Z0) := hD
  refine lv_iinc (v := 3) (lv' := [(1, .int 3), (0, .ref h0)]) hx hb dX4_init_122 hl (k := 0) rfl (by decide) (by decide) rfl (fun ls hl => ?_)
  refine lv_goto (tgt := 110) hx hb dX4_init_125 (by decide) ?_
  refine lv_iload_n hx hb dX4_init_110 rfl (lv_at hl 0 rfl) ?_
  refine lv_iconst (v := 4) hx hb dX4_init_111 (by decide) ?_
  refine lv_icmp_ge (tgt := 128) hx hb dX4_init_112 (by decide) (fun c48 => absurd c48 (by decide)) (fun c48 => ?_)
  refine lv_aload_n hx hb dX4_init_115 rfl (lv_at hl 1 rfl) ?_
  refine va_get (D := (dC, dI)) (ci := 4) (v := .ref q16) (C := RX4) (T := TX4) (N := 18) hx hb hts hin4 hown hK hP 0 rfl rfl 8 (by decide) (hts (.fieldLink RX4 27 "FeedDesk$State" "returns" "[I") (List.mem_of_getElem? (i := 10) rfl)) (fun _ h9 => h9) rfl dX4_init_116 ?_
  refine lv_iload_n hx hb dX4_init_119 rfl (lv_at hl 0 rfl) ?_
  refine lv_iconst (v := (-1)) hx hb dX4_init_120 (by decide) ?_
  refine va_iast (f := upd (upd (upd z0 0 (-1)) 1 (-1)) 2 (-1)) hx hb hK hP hD hS 6 0 rfl rfl (vp_of_B (by decide +kernel)) dX4_init_121 (fun H49 locs hP hD hS => ?_)
  have hP : va_P (dC, dI) vwCl ([(h0, .inr (4, [.ref q1, .ref q4, .ref q7, .int 0, .int 0, .int 0, .ref q10, .ref q13, .ref q16, .ref q19, .ref q22, .int 0, .int 0, .int 0, .int 0, .ref q25, .int 0, .ref (u30 0)])), (q1, .inl (cI, 12, .inl z0)), (q4, .inl (cI, 16, .inl (upd (upd (upd (upd z0 12 100) 13 100) 14 100) 15 100))), (q7, .inl (cI, 12, .inl z0)), (q10, .inl (cI, 48, .inl z0)), (q13, .inl (cI, 4, .inl z0)), (q16, .inl (cI, 4, .inl (upd (upd (upd (upd z0 0 (-1)) 1 (-1)) 2 (-1)) 3 (-1)))), (q19, .inl (cI, 12, .inl z0)), (q22, .inl (cI, 4, .inl z0)), (q25, .inl (cI, 102, .inl z0))] ++ cFd u30 cI Z0) H49 := hP
  have hD : va_D (va_A [(h0, .inr (4, [.null, .null, .null, .int 0, .int 0, .int 0, .null, .null, .null, .null, .null, .int 0, .int 0, .int 0, .int 0, .null, .int 0, .null]))] s.heap.size) ([(h0, .inr (4, [.ref q1, .ref q4, .ref q7, .int 0, .int 0, .int 0, .ref q10, .ref q13, .ref q16, .ref q19, .ref q22, .int 0, .int 0, .int 0, .int 0, .ref q25, .int 0, .ref (u30 0)])), (q1, .inl (cI, 12, .inl z0)), (q4, .inl (cI, 16, .inl (upd (upd (upd (upd z0 12 100) 13 100) 14 100) 15 100))), (q7, .inl (cI, 12, .inl z0)), (q10, .inl (cI, 48, .inl z0)), (q13, .inl (cI, 4, .inl z0)), (q16, .inl (cI, 4, .inl (upd (upd (upd (upd z0 0 (-1)) 1 (-1)) 2 (-1)) 3 (-1)))), (q19, .inl (cI, 12, .inl z0)), (q22, .inl (cI, 4, .inl z0)), (q25, .inl (cI, 102, .inl z0))] ++ cFd u30 cI Z0) := hD
  refine lv_iinc (v := 4) (lv' := [(1, .int 4), (0, .ref h0)]) hx hb dX4_init_122 hl (k := 0) rfl (by decide) (by decide) rfl (fun ls hl => ?_)
  refine lv_goto (tgt := 110) hx hb dX4_init_125 (by decide) ?_
  refine lv_iload_n hx hb dX4_init_110 rfl (lv_at hl 0 rfl) ?_
  refine lv_iconst (v := 4) hx hb dX4_init_111 (by decide) ?_
  refine lv_icmp_ge (tgt := 128) hx hb dX4_init_112 (by decide) (fun c50 => ?_) (fun c50 => absurd (by decide) c50)
  have hP9 : va_P (dC, dI) vwCl (cSt (lk [h0, q1, q4, q7, q10, q13, q16, q19, q22, q25] u30) cI S0) H49 := hP.sub [0, 1, 2, 3, 4, 5, 6, 7, 8, 9, 10, 11] rfl
  have hD9 : va_D (va_A [(h0, .inr (4, [.null, .null, .null, .int 0, .int 0, .int 0, .null, .null, .null, .null, .null, .int 0, .int 0, .int 0, .int 0, .null, .int 0, .null]))] s.heap.size) (cSt (lk [h0, q1, q4, q7, q10, q13, q16, q19, q22, q25] u30) cI S0) := hD.sub [0, 1, 2, 3, 4, 5, 6, 7, 8, 9, 10, 11] (by decide) rfl
  exact W.vret hx hb hr (fun t ht hWw => ⟨⟨lk [h0, q1, q4, q7, q10, q13, q16, q19, q22, q25] u30, rfl, rfl, by rw [ht]; exact hP9, hD9⟩, hS.F ht⟩) hS.2.2 dX4_init_128
abbrev rm_X1_init : Room := { frames := 3, cells := 61, slots := 1270, locals := 53 }
set_option maxHeartbeats 4000000 in
set_option maxRecDepth 100000 in
theorem c_X1_init (l : Launch) (dC : Nat → ClassId) (dI : Nat → Nat → Nat) (cI cC cS : ClassId) (h0 : Nat) (sz : Nat) : Met l yX1_init wsX1_init rm_X1_init (PcN (dC, dI) (tyL cI cC cS) [(h0, .inr (1, [.null, .int 0, .int 0]))] sz [.ref h0]) (va_Qv (fun q : Nat → Nat => q 0 = h0) (fun q U => va_P (dC, dI) vwCl (cHs q cI cS) U.heap ∧ va_D (va_A [(h0, .inr (1, [.null, .int 0, .int 0]))] sz) (cHs q cI cS)) (va_A [(h0, .inr (1, [.null, .int 0, .int 0]))] sz)) 61 1270 (va_A [(h0, .inr (1, [.null, .int 0, .int 0]))] sz) := by
  refine Met.ofW (cc := cX1_init) (maxL := 2) (ret := none) (by decide) rfl ?_
  intro p e s m args below meth c s₁ B hml hv
  obtain ⟨rfl, hsz, hP, hK, hD0, hN, hO⟩ := hv
  have hx := B.exec
  have hb := B.bytes
  have hr := B.returns
  have hts := atoms_spec (ws := wsX1_init) B.pre
  have hown : s.vm.findClass RX1 = some m.cls := findClass_of_methodNamed B.named
  have hlocks := B.notSynchronized
  have hin : meth.name = "<init>" := (name_of_methodNamed B.named B.method).1
  subst hsz
  have hD := hD0.self (sz := s.heap.size)
  have hA : ∀ q : Nat, s.heap.size ≤ q → va_A [(h0, .inr (1, [.null, .int 0, .int 0]))] s.heap.size q := fun q h => Or.inr h
  have hS : va_S (va_A [(h0, .inr (1, [.null, .int 0, .int 0]))] s.heap.size) s.heap s.heap [] := va_S.rf
  have hin1 : ∀ w ∈ wsX10, w ∈ wsX1_init := fun _ h => List.mem_cons_of_mem _ (List.mem_append_left _ (List.mem_append_left _ (List.mem_append_right _ h)))
  have hin4 : ∀ w ∈ wsX40, w ∈ wsX1_init := fun _ h => List.mem_cons_of_mem _ (List.mem_append_left _ (List.mem_append_right _ h))
  have hl := lv_entry [.ref h0] (n := 2) (Nat.le_of_ble_eq_true rfl)
  rw [lg_entry_eq]
  generalize (lg_sl [.ref h0] ++ List.replicate (2 - (lg_sl [.ref h0]).length) Slot.unset).toArray = ls at hl ⊢
  have hl : lv_has ls 2 [(0, .ref h0)] := hl
  refine lv_aload_n hx hb dX1_init_0 rfl (lv_at hl 0 rfl) ?_
  refine W.objInit hx hb hown (hts (.methodLink RX1 3 objectInit) (List.mem_of_getElem? (i := 1) rfl)) (hts (.instanceMethod objectInit) (List.mem_of_getElem? (i := 2) rfl)) (hts (.code objectInit ⟨#[0xb1]⟩ 1 none) (List.mem_of_getElem? (i := 3) rfl)) rfl (by rw [hml]; exact hl.1) rfl dX1_init_1 (Nat.le_of_ble_eq_true rfl) (Nat.le_of_ble_eq_true rfl) ?_
  refine W.eq (g2 := F0 m 4 ls []) rfl ?_
  refine lv_aload_n hx hb dX1_init_4 rfl (lv_at hl 0 rfl) ?_
  refine lv_iconst (v := 5) hx hb dX1_init_5 (by decide) ?_
  refine va_newq (C := RX4) (N' := 5) hx hb hown (hts (.classLink RX1 9 RX4) (List.mem_of_getElem? (i := 4) rfl)) hO hK hP hD hS hA (by decide) (by decide +kernel) (Nat.le_of_ble_eq_true rfl) (Nat.le_of_ble_eq_true rfl) (Nat.le_of_ble_eq_true rfl) dX1_init_6 (fun q1 cA H2 hK1 hP hD hS => ?_)
  have eA := obj_same 2 3 hK rfl hK1 rfl
  rw [eA] at hP hD
  clear eA hK1
  have hP : va_P (dC, dI) vwCl ([(h0, .inr (1, [.null, .int 0, .int 0])), (q1, .inl (cS, 5, .inr (.inr (.inr (.inr (fun _ => none))))))]) H2 := hP
  have hD : va_D (va_A [(h0, .inr (1, [.null, .int 0, .int 0]))] s.heap.size) ([(h0, .inr (1, [.null, .int 0, .int 0])), (q1, .inl (cS, 5, .inr (.inr (.inr (.inr (fun _ => none))))))]) := hD
  refine W.widen (k := 1) (n := 5) (Nat.le_of_ble_eq_true rfl) (Nat.le_of_ble_eq_true rfl) ?_
  refine va_putF (D := (dC, dI)) (ci := 1) (v := .ref q1) (ty := .array (.object "FeedDesk$State")) (C := RX1) (T := TX1) (N := 3) hx hb hts hin1 tyX1 tyX1_ok nmX1 hown hK hP hD hS 0 rfl rfl 0 (by decide) (hts (.fieldLink RX1 11 "FeedDesk$History" "kept" "[LFeedDesk$State;") (List.mem_of_getElem? (i := 5) rfl)) (fun _ h9 => h9) rfl hin rfl (by decide +kernel) rfl rfl (Nat.le_of_ble_eq_true rfl) dX1_init_9 (fun H3 locs hP hD hS => ?_)
  have hP : va_P (dC, dI) vwCl ([(h0, .inr (1, [.ref q1, .int 0, .int 0])), (q1, .inl (cS, 5, .inr (.inr (.inr (.inr (fun _ => none))))))]) H3 := hP
  have hD : va_D (va_A [(h0, .inr (1, [.null, .int 0, .int 0]))] s.heap.size) ([(h0, .inr (1, [.ref q1, .int 0, .int 0])), (q1, .inl (cS, 5, .inr (.inr (.inr (.inr (fun _ => none))))))]) := hD
  refine lv_iconst (v := 0) hx hb dX1_init_12 (by decide) ?_
  refine lv_istore_n (lv' := [(1, .int 0), (0, .ref h0)]) hx hb dX1_init_13 rfl hl (by decide) rfl (fun ls hl => ?_)
  refine lv_iload_n hx hb dX1_init_14 rfl (lv_at hl 0 rfl) ?_
  refine lv_iconst (v := 5) hx hb dX1_init_15 (by decide) ?_
  refine lv_icmp_ge (tgt := 38) hx hb dX1_init_16 (by decide) (fun c4 => absurd c4 (by decide)) (fun c4 => ?_)
  refine lv_aload_n hx hb dX1_init_19 rfl (lv_at hl 1 rfl) ?_
  refine va_get (D := (dC, dI)) (ci := 1) (v := .ref q1) (C := RX1) (T := TX1) (N := 3) hx hb hts hin1 hown hK hP 0 rfl rfl 0 (by decide) (hts (.fieldLink RX1 11 "FeedDesk$History" "kept" "[LFeedDesk$State;") (List.mem_of_getElem? (i := 5) rfl)) (fun _ h9 => h9) rfl dX1_init_20 ?_
  refine lv_iload_n hx hb dX1_init_23 rfl (lv_at hl 0 rfl) ?_
  refine va_new (ci := 4) (fs := [.null, .null, .null, .int 0, .int 0, .int 0, .null, .null, .null, .null, .null, .int 0, .int 0, .int 0, .int 0, .null, .int 0, .null]) (C := RX4) (T := TX4) (N := 18) hx hb hts hin4 tyX4 tyX4_ok hown (hts (.classLink RX1 9 RX4) (List.mem_of_getElem? (i := 4) rfl)) (hts (.instantiable RX4 18) (List.mem_of_getElem? (i := 6) rfl)) (hts (.initialized RX4) (List.mem_of_getElem? (i := 7) rfl)) hK hP hD hS hA rfl (fun j hj => by rcases (show j = 0 ∨ j = 1 ∨ j = 2 ∨ j = 3 ∨ j = 4 ∨ j = 5 ∨ j = 6 ∨ j = 7 ∨ j = 8 ∨ j = 9 ∨ j = 10 ∨ j = 11 ∨ j = 12 ∨ j = 13 ∨ j = 14 ∨ j = 15 ∨ j = 16 ∨ j = 17 by omega) with rfl | rfl | rfl | rfl | rfl | rfl | rfl | rfl | rfl | rfl | rfl | rfl | rfl | rfl | rfl | rfl | rfl | rfl <;> rfl) (Nat.le_of_ble_eq_true rfl) (Nat.le_of_ble_eq_true rfl) dX1_init_24 (fun q5 H6 hP hD hS => ?_)
  have hP : va_P (dC, dI) vwCl ([(h0, .inr (1, [.ref q1, .int 0, .int 0])), (q1, .inl (cS, 5, .inr (.inr (.inr (.inr (fun _ => none))))))] ++ [(q5, .inr (4, [.null, .null, .null, .int 0, .int 0, .int 0, .null, .null, .null, .null, .null, .int 0, .int 0, .int 0, .int 0, .null, .int 0, .null]))]) H6 := hP
  have hD : va_D (va_A [(h0, .inr (1, [.null, .int 0, .int 0]))] s.heap.size) ([(h0, .inr (1, [.ref q1, .int 0, .int 0])), (q1, .inl (cS, 5, .inr (.inr (.inr (.inr (fun _ => none))))))] ++ [(q5, .inr (4, [.null, .null, .null, .int 0, .int 0, .int 0, .null, .null, .null, .null, .null, .int 0, .int 0, .int 0, .int 0, .null, .int 0, .null]))]) := hD
  refine W.widen (k := 2) (n := 23) (Nat.le_of_ble_eq_true rfl) (Nat.le_of_ble_eq_true rfl) ?_
  refine lv_dup hx hb dX1_init_27 rfl ?_
  have hPc : va_P (dC, dI) vwCl [(q5, .inr (4, [.null, .null, .null, .int 0, .int 0, .int 0, .null, .null, .null, .null, .null, .int 0, .int 0, .int 0, .int 0, .null, .int 0, .null]))] H6 := hP.sub [2] rfl
  have hDc : va_D (va_A [(h0, .inr (1, [.null, .int 0, .int 0]))] s.heap.size) [(q5, .inr (4, [.null, .null, .null, .int 0, .int 0, .int 0, .null, .null, .null, .null, .null, .int 0, .int 0, .int 0, .int 0, .null, .int 0, .null]))] := hD.sub [2] (by decide) rfl
  have hFc : ∀ q : Nat, va_A [(q5, .inr (4, [.null, .null, .null, .int 0, .int 0, .int 0, .null, .null, .null, .null, .null, .int 0, .int 0, .int 0, .int 0, .null, .int 0, .null]))] H6.size q → va_A [(h0, .inr (1, [.null, .int 0, .int 0]))] s.heap.size q := va_free hD hS hA [2] rfl
  refine va_callv (va_runI (As := []) (rest := [.ref q5, .int 0, .ref q1]) ⟨hx, hb, hml, hown, hts⟩ (c_X4_init l dC dI cI cC cS q5  H6.size) (cwI 0 hts gX1_init_X4_init rfl rfl rfl (hts (.initialized RX4) (List.mem_of_getElem? (i := 7) rfl)) (hts (.methodLink RX1 17 yX4_init) (List.mem_of_getElem? (i := 8) rfl)) (hts (.instanceMethod yX4_init) (List.mem_of_getElem? (i := 9) rfl)) rfl (by decide +kernel) ⟨(Nat.le_of_ble_eq_true rfl), (Nat.le_of_ble_eq_true rfl)⟩) (pN hK hPc hDc hN hO) rfl rfl hl.1 rfl (lv_room (Nat.le_of_ble_eq_true rfl)) dX1_init_28 ⟨(Nat.le_of_ble_eq_true rfl), (Nat.le_of_ble_eq_true rfl)⟩) hS (fun q _ h => hFc q h) hFc (fun u7 t_u7 H8 locs ht hvm hw hB hz1 hk1 hS => ?_)
  obtain ⟨hP1, hD1⟩ := hB
  rw [ht] at hP1
  subst hw
  obtain ⟨hP, hD⟩ := va_join (wc := [((u7 0), .inr (4, [.null, .null, .null, .int 0, .int 0, .int 0, .null, .null, .null, .null, .null, .int 0, .int 0, .int 0, .int 0, .null, .int 0, .null]))]) (wr := [(h0, .inr (1, [.ref q1, .int 0, .int 0])), (q1, .inl (cS, 5, .inr (.inr (.inr (.inr (fun _ => none))))))]) (w1 := cSt u7 cI S0) hP hD [2] [0, 1] rfl rfl (by decide) (by decide) hk1 hFc hP1 hD1
  have hP : va_P (dC, dI) vwCl ([(h0, .inr (1, [.ref q1, .int 0, .int 0])), (q1, .inl (cS, 5, .inr (.inr (.inr (.inr (fun _ => none))))))] ++ cSt u7 cI S0) H8 := hP
  have hD : va_D (va_A [(h0, .inr (1, [.null, .int 0, .int 0]))] s.heap.size) ([(h0, .inr (1, [.ref q1, .int 0, .int 0])), (q1, .inl (cS, 5, .inr (.inr (.inr (.inr (fun _ => none))))))] ++ cSt u7 cI S0) := hD
  refine W.widen (k := 13) (n := 258) (Nat.le_of_ble_eq_true rfl) (Nat.le_of_ble_eq_true rfl) ?_
  refine va_astq (f := fun _ => none) (r := (RX4, TX4, 18)) hx hb hK hP hD hS 1 2 2 4 rfl rfl rfl rfl (vp_of_B (by decide +kernel)) dX1_init_31 (fun H9 locs hP hD hS => ?_)
  have hP : va_P (dC, dI) vwCl ([(h0, .inr (1, [.ref q1, .int 0, .int 0])), (q1, .inl (cS, 5, .inr (.inr (.inr (.inr (va_up (fun _ => none) 0 (some (u7 0))))))))] ++ cSt u7 cI S0) H9 := hP
  have hD : va_D (va_A [(h0, .inr (1, [.null, .int 0, .int 0]))] s.heap.size) ([(h0, .inr (1, [.ref q1, .int 0, .int 0])), (q1, .inl (cS, 5, .inr (.inr (.inr (.inr (va_up (fun _ => none) 0 (some (u7 0))))))))] ++ cSt u7 cI S0) := hD
  refine lv_iinc (v := 1) (lv' := [(1, .int 1), (0, .ref h0)]) hx hb dX1_init_32 hl (k := 0) rfl (by decide) (by decide) rfl (fun ls hl => ?_)
  refine lv_goto (tgt := 14) hx hb dX1_init_35 (by decide) ?_
  refine lv_iload_n hx hb dX1_init_14 rfl (lv_at hl 0 rfl) ?_
  refine lv_iconst (v := 5) hx hb dX1_init_15 (by decide) ?_
  refine lv_icmp_ge (tgt := 38) hx hb dX1_init_16 (by decide) (fun c10 => absurd c10 (by decide)) (fun c10 => ?_)
  refine lv_aload_n hx hb dX1_init_19 rfl (lv_at hl 1 rfl) ?_
  refine va_get (D := (dC, dI)) (ci := 1) (v := .ref q1) (C := RX1) (T := TX1) (N := 3) hx hb hts hin1 hown hK hP 0 rfl rfl 0 (by decide) (hts (.fieldLink RX1 11 "FeedDesk$History" "kept" "[LFeedDesk$State;") (List.mem_of_getElem? (i := 5) rfl)) (fun _ h9 => h9) rfl dX1_init_20 ?_
  refine lv_iload_n hx hb dX1_init_23 rfl (lv_at hl 0 rfl) ?_
  refine va_new (ci := 4) (fs := [.null, .null, .null, .int 0, .int 0, .int 0, .null, .null, .null, .null, .null, .int 0, .int 0, .int 0, .int 0, .null, .int 0, .null]) (C := RX4) (T := TX4) (N := 18) hx hb hts hin4 tyX4 tyX4_ok hown (hts (.classLink RX1 9 RX4) (List.mem_of_getElem? (i := 4) rfl)) (hts (.instantiable RX4 18) (List.mem_of_getElem? (i := 6) rfl)) (hts (.initialized RX4) (List.mem_of_getElem? (i := 7) rfl)) hK hP hD hS hA rfl (fun j hj => by rcases (show j = 0 ∨ j = 1 ∨ j = 2 ∨ j = 3 ∨ j = 4 ∨ j = 5 ∨ j = 6 ∨ j = 7 ∨ j = 8 ∨ j = 9 ∨ j = 10 ∨ j = 11 ∨ j = 12 ∨ j = 13 ∨ j = 14 ∨ j = 15 ∨ j = 16 ∨ j = 17 by omega) with rfl | rfl | rfl | rfl | rfl | rfl | rfl | rfl | rfl | rfl | rfl | rfl | rfl | rfl | rfl | rfl | rfl | rfl <;> rfl) (Nat.le_of_ble_eq_true rfl) (Nat.le_of_ble_eq_true rfl) dX1_init_24 (fun q11 H12 hP hD hS => ?_)
  have hP : va_P (dC, dI) vwCl ([(h0, .inr (1, [.ref q1, .int 0, .int 0])), (q1, .inl (cS, 5, .inr (.inr (.inr (.inr (va_up (fun _ => none) 0 (some (u7 0))))))))] ++ cSt u7 cI S0 ++ [(q11, .inr (4, [.null, .null, .null, .int 0, .int 0, .int 0, .null, .null, .null, .null, .null, .int 0, .int 0, .int 0, .int 0, .null, .int 0, .null]))]) H12 := hP
  have hD : va_D (va_A [(h0, .inr (1, [.null, .int 0, .int 0]))] s.heap.size) ([(h0, .inr (1, [.ref q1, .int 0, .int 0])), (q1, .inl (cS, 5, .inr (.inr (.inr (.inr (va_up (fun _ => none) 0 (some (u7 0))))))))] ++ cSt u7 cI S0 ++ [(q11, .inr (4, [.null, .null, .null, .int 0, .int 0, .int 0, .null, .null, .null, .null, .null, .int 0, .int 0, .int 0, .int 0, .null, .int 0, .null]))]) := hD
  refine W.widen (k := 14) (n := 276) (Nat.le_of_ble_eq_true rfl) (Nat.le_of_ble_eq_true rfl) ?_
  refine lv_dup hx hb dX1_init_27 rfl ?_
  have hPc : va_P (dC, dI) vwCl [(q11, .inr (4, [.null, .null, .null, .int 0, .int 0, .int 0, .null, .null, .null, .null, .null, .int 0, .int 0, .int 0, .int 0, .null, .int 0, .null]))] H12 := hP.sub [14] rfl
  have hDc : va_D (va_A [(h0, .inr (1, [.null, .int 0, .int 0]))] s.heap.size) [(q11, .inr (4, [.null, .null, .null, .int 0, .int 0, .int 0, .null, .null, .null, .null, .null, .int 0, .int 0, .int 0, .int 0, .null, .int 0, .null]))] := hD.sub [14] (by decide) rfl
  have hFc : ∀ q : Nat, va_A [(q11, .inr (4, [.null, .null, .null, .int 0, .int 0, .int 0, .null, .null, .null, .null, .null, .int 0, .int 0, .int 0, .int 0, .null, .int 0, .null]))] H12.size q → va_A [(h0, .inr (1, [.null, .int 0, .int 0]))] s.heap.size q := va_free hD hS hA [14] rfl
  refine va_callv (va_runI (As := []) (rest := [.ref q11, .int 1, .ref q1]) ⟨hx, hb, hml, hown, hts⟩ (c_X4_init l dC dI cI cC cS q11  H12.size) (cwI 0 hts gX1_init_X4_init rfl rfl rfl (hts (.initialized RX4) (List.mem_of_getElem? (i := 7) rfl)) (hts (.methodLink RX1 17 yX4_init) (List.mem_of_getElem? (i := 8) rfl)) (hts (.instanceMethod yX4_init) (List.mem_of_getElem? (i := 9) rfl)) rfl (by decide +kernel) ⟨(Nat.le_of_ble_eq_true rfl), (Nat.le_of_ble_eq_true rfl)⟩) (pN hK hPc hDc hN hO) rfl rfl hl.1 rfl (lv_room (Nat.le_of_ble_eq_true rfl)) dX1_init_28 ⟨(Nat.le_of_ble_eq_true rfl), (Nat.le_of_ble_eq_true rfl)⟩) hS (fun q _ h => hFc q h) hFc (fun u13 t_u13 H14 locs ht hvm hw hB hz1 hk1 hS => ?_)
  obtain ⟨hP1, hD1⟩ := hB
  rw [ht] at hP1
  subst hw
  obtain ⟨hP, hD⟩ := va_join (wc := [((u13 0), .inr (4, [.null, .null, .null, .int 0, .int 0, .int 0, .null, .null, .null, .null, .null, .int 0, .int 0, .int 0, .int 0, .null, .int 0, .null]))]) (wr := [(h0, .inr (1, [.ref q1, .int 0, .int 0])), (q1, .inl (cS, 5, .inr (.inr (.inr (.inr (va_up (fun _ => none) 0 (some (u7 0))))))))] ++ cSt u7 cI S0) (w1 := cSt u13 cI S0) hP hD [14] [0, 1, 2, 3, 4, 5, 6, 7, 8, 9, 10, 11, 12, 13] rfl rfl (by decide) (by decide) hk1 hFc hP1 hD1
  have hP : va_P (dC, dI) vwCl ([(h0, .inr (1, [.ref q1, .int 0, .int 0])), (q1, .inl (cS, 5, .inr (.inr (.inr (.inr (va_up (fun _ => none) 0 (some (u7 0))))))))] ++ cSt u7 cI S0 ++ cSt u13 cI S0) H14 := hP
  have hD : va_D (va_A [(h0, .inr (1, [.null, .int 0, .int 0]))] s.heap.size) ([(h0, .inr (1, [.ref q1, .int 0, .int 0])), (q1, .inl (cS, 5, .inr (.inr (.inr (.inr (va_up (fun _ => none) 0 (some (u7 0))))))))] ++ cSt u7 cI S0 ++ cSt u13 cI S0) := hD
  refine W.widen (k := 25) (n := 511) (Nat.le_of_ble_eq_true rfl) (Nat.le_of_ble_eq_true rfl) ?_
  refine va_astq (f := va_up (fun _ => none) 0 (some (u7 0))) (r := (RX4, TX4, 18)) hx hb hK hP hD hS 1 2 14 4 rfl rfl rfl rfl (vp_of_B (by decide +kernel)) dX1_init_31 (fun H15 locs hP hD hS => ?_)
  have hP : va_P (dC, dI) vwCl ([(h0, .inr (1, [.ref q1, .int 0, .int 0])), (q1, .inl (cS, 5, .inr (.inr (.inr (.inr (va_up (va_up (fun _ => none) 0 (some (u7 0))) 1 (some (u13 0))))))))] ++ cSt u7 cI S0 ++ cSt u13 cI S0) H15 := hP
  have hD : va_D (va_A [(h0, .inr (1, [.null, .int 0, .int 0]))] s.heap.size) ([(h0, .inr (1, [.ref q1, .int 0, .int 0])), (q1, .inl (cS, 5, .inr (.inr (.inr (.inr (va_up (va_up (fun _ => none) 0 (some (u7 0))) 1 (some (u13 0))))))))] ++ cSt u7 cI S0 ++ cSt u13 cI S0) := hD
  refine lv_iinc (v := 2) (lv' := [(1, .int 2), (0, .ref h0)]) hx hb dX1_init_32 hl (k := 0) rfl (by decide) (by decide) rfl (fun ls hl => ?_)
  refine lv_goto (tgt := 14) hx hb dX1_init_35 (by decide) ?_
  refine lv_iload_n hx hb dX1_init_14 rfl (lv_at hl 0 rfl) ?_
  refine lv_iconst (v := 5) hx hb dX1_init_15 (by decide) ?_
  refine lv_icmp_ge (tgt := 38) hx hb dX1_init_16 (by decide) (fun c16 => absurd c16 (by decide)) (fun c16 => ?_)
  refine lv_aload_n hx hb dX1_init_19 rfl (lv_at hl 1 rfl) ?_
  refine va_get (D := (dC, dI)) (ci := 1) (v := .ref q1) (C := RX1) (T := TX1) (N := 3) hx hb hts hin1 hown hK hP 0 rfl rfl 0 (by decide) (hts (.fieldLink RX1 11 "FeedDesk$History" "kept" "[LFeedDesk$State;") (List.mem_of_getElem? (i := 5) rfl)) (fun _ h9 => h9) rfl dX1_init_20 ?_
  refine lv_iload_n hx hb dX1_init_23 rfl (lv_at hl 0 rfl) ?_
  refine va_new (ci := 4) (fs := [.null, .null, .null, .int 0, .int 0, .int 0, .null, .null, .null, .null, .null, .int 0, .int 0, .int 0, .int 0, .null, .int 0, .null]) (C := RX4) (T := TX4) (N := 18) hx hb hts hin4 tyX4 tyX4_ok hown (hts (.classLink RX1 9 RX4) (List.mem_of_getElem? (i := 4) rfl)) (hts (.instantiable RX4 18) (List.mem_of_getElem? (i := 6) rfl)) (hts (.initialized RX4) (List.mem_of_getElem? (i := 7) rfl)) hK hP hD hS hA rfl (fun j hj => by rcases (show j = 0 ∨ j = 1 ∨ j = 2 ∨ j = 3 ∨ j = 4 ∨ j = 5 ∨ j = 6 ∨ j = 7 ∨ j = 8 ∨ j = 9 ∨ j = 10 ∨ j = 11 ∨ j = 12 ∨ j = 13 ∨ j = 14 ∨ j = 15 ∨ j = 16 ∨ j = 17 by omega) with rfl | rfl | rfl | rfl | rfl | rfl | rfl | rfl | rfl | rfl | rfl | rfl | rfl | rfl | rfl | rfl | rfl | rfl <;> rfl) (Nat.le_of_ble_eq_true rfl) (Nat.le_of_ble_eq_true rfl) dX1_init_24 (fun q17 H18 hP hD hS => ?_)
  have hP : va_P (dC, dI) vwCl ([(h0, .inr (1, [.ref q1, .int 0, .int 0])), (q1, .inl (cS, 5, .inr (.inr (.inr (.inr (va_up (va_up (fun _ => none) 0 (some (u7 0))) 1 (some (u13 0))))))))] ++ cSt u7 cI S0 ++ cSt u13 cI S0 ++ [(q17, .inr (4, [.null, .null, .null, .int 0, .int 0, .int 0, .null, .null, .null, .null, .null, .int 0, .int 0, .int 0, .int 0, .null, .int 0, .null]))]) H18 := hP
  have hD : va_D (va_A [(h0, .inr (1, [.null, .int 0, .int 0]))] s.heap.size) ([(h0, .inr (1, [.ref q1, .int 0, .int 0])), (q1, .inl (cS, 5, .inr (.inr (.inr (.inr (va_up (va_up (fun _ => none) 0 (some (u7 0))) 1 (some (u13 0))))))))] ++ cSt u7 cI S0 ++ cSt u13 cI S0 ++ [(q17, .inr (4, [.null, .null, .null, .int 0, .int 0, .int 0, .null, .null, .null, .null, .null, .int 0, .int 0, .int 0, .int 0, .null, .int 0, .null]))]) := hD
  refine W.widen (k := 26) (n := 529) (Nat.le_of_ble_eq_true rfl) (Nat.le_of_ble_eq_true rfl) ?_
  refine lv_dup hx hb dX1_init_27 rfl ?_
  have hPc : va_P (dC, dI) vwCl [(q17, .inr (4, [.null, .null, .null, .int 0, .int 0, .int 0, .null, .null, .null, .null, .null, .int 0, .int 0, .int 0, .int 0, .null, .int 0, .null]))] H18 := hP.sub [26] rfl
  have hDc : va_D (va_A [(h0, .inr (1, [.null, .int 0, .int 0]))] s.heap.size) [(q17, .inr (4, [.null, .null, .null, .int 0, .int 0, .int 0, .null, .null, .null, .null, .null, .int 0, .int 0, .int 0, .int 0, .null, .int 0, .null]))] := hD.sub [26] (by decide) rfl
  have hFc : ∀ q : Nat, va_A [(q17, .inr (4, [.null, .null, .null, .int 0, .int 0, .int 0, .null, .null, .null, .null, .null, .int 0, .int 0, .int 0, .int 0, .null, .int 0, .null]))] H18.size q → va_A [(h0, .inr (1, [.null, .int 0, .int 0]))] s.heap.size q := va_free hD hS hA [26] rfl
  refine va_callv (va_runI (As := []) (rest := [.ref q17, .int 2, .ref q1]) ⟨hx, hb, hml, hown, hts⟩ (c_X4_init l dC dI cI cC cS q17  H18.size) (cwI 0 hts gX1_init_X4_init rfl rfl rfl (hts (.initialized RX4) (List.mem_of_getElem? (i := 7) rfl)) (hts (.methodLink RX1 17 yX4_init) (List.mem_of_getElem? (i := 8) rfl)) (hts (.instanceMethod yX4_init) (List.mem_of_getElem? (i := 9) rfl)) rfl (by decide +kernel) ⟨(Nat.le_of_ble_eq_true rfl), (Nat.le_of_ble_eq_true rfl)⟩) (pN hK hPc hDc hN hO) rfl rfl hl.1 rfl (lv_room (Nat.le_of_ble_eq_true rfl)) dX1_init_28 ⟨(Nat.le_of_ble_eq_true rfl), (Nat.le_of_ble_eq_true rfl)⟩) hS (fun q _ h => hFc q h) hFc (fun u19 t_u19 H20 locs ht hvm hw hB hz1 hk1 hS => ?_)
  obtain ⟨hP1, hD1⟩ := hB
  rw [ht] at hP1
  subst hw
  obtain ⟨hP, hD⟩ := va_join (wc := [((u19 0), .inr (4, [.null, .null, .null, .int 0, .int 0, .int 0, .null, .null, .null, .null, .null, .int 0, .int 0, .int 0, .int 0, .null, .int 0, .null]))]) (wr := [(h0, .inr (1, [.ref q1, .int 0, .int 0])), (q1, .inl (cS, 5, .inr (.inr (.inr (.inr (va_up (va_up (fun _ => none) 0 (some (u7 0))) 1 (some (u13 0))))))))] ++ cSt u7 cI S0 ++ cSt u13 cI S0) (w1 := cSt u19 cI S0) hP hD [26] [0, 1, 2, 3, 4, 5, 6, 7, 8, 9, 10, 11, 12, 13, 14, 15, 16, 17, 18, 19, 20, 21, 22, 23, 24, 25] rfl rfl (by decide) (by decide) hk1 hFc hP1 hD1
  have hP : va_P (dC, dI) vwCl ([(h0, .inr (1, [.ref q1, .int 0, .int 0])), (q1, .inl (cS, 5, .inr (.inr (.inr (.inr (va_up (va_up (fun _ => none) 0 (some (u7 0))) 1 (some (u13 0))))))))] ++ cSt u7 cI S0 ++ cSt u13 cI S0 ++ cSt u19 cI S0) H20 := hP
  have hD : va_D (va_A [(h0, .inr (1, [.null, .int 0, .int 0]))] s.heap.size) ([(h0, .inr (1, [.ref q1, .int 0, .int 0])), (q1, .inl (cS, 5, .inr (.inr (.inr (.inr (va_up (va_up (fun _ => none) 0 (some (u7 0))) 1 (some (u13 0))))))))] ++ cSt u7 cI S0 ++ cSt u13 cI S0 ++ cSt u19 cI S0) := hD
  refine W.widen (k := 37) (n := 764) (Nat.le_of_ble_eq_true rfl) (Nat.le_of_ble_eq_true rfl) ?_
  refine va_astq (f := va_up (va_up (fun _ => none) 0 (some (u7 0))) 1 (some (u13 0))) (r := (RX4, TX4, 18)) hx hb hK hP hD hS 1 2 26 4 rfl rfl rfl rfl (vp_of_B (by decide +kernel)) dX1_init_31 (fun H21 locs hP hD hS => ?_)
  have hP : va_P (dC, dI) vwCl ([(h0, .inr (1, [.ref q1, .int 0, .int 0])), (q1, .inl (cS, 5, .inr (.inr (.inr (.inr (va_up (va_up (va_up (fun _ => none) 0 (some (u7 0))) 1 (some (u13 0))) 2 (some (u19 0))))))))] ++ cSt u7 cI S0 ++ cSt u13 cI S0 ++ cSt u19 cI S0) H21 := hP
  have hD : va_D (va_A [(h0, .inr (1, [.null, .int 0, .int 0]))] s.heap.size) ([(h0, .inr (1, [.ref q1, .int 0, .int 0])), (q1, .inl (cS, 5, .inr (.inr (.inr (.inr (va_up (va_up (va_up (fun _ => none) 0 (some (u7 0))) 1 (some (u13 0))) 2 (some (u19 0))))))))] ++ cSt u7 cI S0 ++ cSt u13 cI S0 ++ cSt u19 cI S0) := hD
  refine lv_iinc (v := 3) (lv' := [(1, .int 3), (0, .ref h0)]) hx hb dX1_init_32 hl (k := 0) rfl (by decide) (by decide) rfl (fun ls hl => ?_)
  refine lv_goto (tgt := 14) hx hb dX1_init_35 (by decide) ?_
  refine lv_iload_n hx hb dX1_init_14 rfl (lv_at hl 0 rfl) ?_
  refine lv_iconst (v := 5) hx hb dX1_init_15 (by decide) ?_
  refine lv_icmp_ge (tgt := 38) hx hb dX1_init_16 (by decide) (fun c22 => absurd c22 (by decide)) (fun c22 => ?_)
  refine lv_aload_n hx hb dX1_init_19 rfl (lv_at hl 1 rfl) ?_
  refine va_get (D := (dC, dI)) (ci := 1) (v := .ref q1) (C := RX1) (T := TX1) (N := 3) hx hb hts hin1 hown hK hP 0 rfl rfl 0 (by decide) (hts (.fieldLink RX1 11 "FeedDesk$History" "kept" "[LFeedDesk$State;") (List.mem_of_getElem? (i := 5) rfl)) (fun _ h9 => h9) rfl dX1_init_20 ?_
  refine lv_iload_n hx hb dX1_init_23 rfl (lv_at hl 0 rfl) ?_
  refine va_new (ci := 4) (fs := [.null, .null, .null, .int 0, .int 0, .int 0, .null, .null, .null, .null, .null, .int 0, .int 0, .int 0, .int 0, .null, .int 0, .null]) (C := RX4) (T := TX4) (N := 18) hx hb hts hin4 tyX4 tyX4_ok hown (hts (.classLink RX1 9 RX4) (List.mem_of_getElem? (i := 4) rfl)) (hts (.instantiable RX4 18) (List.mem_of_getElem? (i := 6) rfl)) (hts (.initialized RX4) (List.mem_of_getElem? (i := 7) rfl)) hK hP hD hS hA rfl (fun j hj => by rcases (show j = 0 ∨ j = 1 ∨ j = 2 ∨ j = 3 ∨ j = 4 ∨ j = 5 ∨ j = 6 ∨ j = 7 ∨ j = 8 ∨ j = 9 ∨ j = 10 ∨ j = 11 ∨ j = 12 ∨ j = 13 ∨ j = 14 ∨ j = 15 ∨ j = 16 ∨ j = 17 by omega) with rfl | rfl | rfl | rfl | rfl | rfl | rfl | rfl | rfl | rfl | rfl | rfl | rfl | rfl | rfl | rfl | rfl | rfl <;> rfl) (Nat.le_of_ble_eq_true rfl) (Nat.le_of_ble_eq_true rfl) dX1_init_24 (fun q23 H24 hP hD hS => ?_)
  have hP : va_P (dC, dI) vwCl ([(h0, .inr (1, [.ref q1, .int 0, .int 0])), (q1, .inl (cS, 5, .inr (.inr (.inr (.inr (va_up (va_up (va_up (fun _ => none) 0 (some (u7 0))) 1 (some (u13 0))) 2 (some (u19 0))))))))] ++ cSt u7 cI S0 ++ cSt u13 cI S0 ++ cSt u19 cI S0 ++ [(q23, .inr (4, [.null, .null, .null, .int 0, .int 0, .int 0, .null, .null, .null, .null, .null, .int 0, .int 0, .int 0, .int 0, .null, .int 0, .null]))]) H24 := hP
  have hD : va_D (va_A [(h0, .inr (1, [.null, .int 0, .int 0]))] s.heap.size) ([(h0, .inr (1, [.ref q1, .int 0, .int 0])), (q1, .inl (cS, 5, .inr (.inr (.inr (.inr (va_up (va_up (va_up (fun _ => none) 0 (some (u7 0))) 1 (some (u13 0))) 2 (some (u19 0))))))))] ++ cSt u7 cI S0 ++ cSt u13 cI S0 ++ cSt u19 cI S0 ++ [(q23, .inr (4, [.null, .null, .null, .int 0, .int 0, .int 0, .null, .null, .null, .null, .null, .int 0, .int 0, .int 0, .int 0, .null, .int 0, .null]))]) := hD
  refine W.widen (k := 38) (n := 782) (Nat.le_of_ble_eq_true rfl) (Nat.le_of_ble_eq_true rfl) ?_
  refine lv_dup hx hb dX1_init_27 rfl ?_
  have hPc : va_P (dC, dI) vwCl [(q23, .inr (4, [.null, .null, .null, .int 0, .int 0, .int 0, .null, .null, .null, .null, .null, .int 0, .int 0, .int 0, .int 0, .null, .int 0, .null]))] H24 := hP.sub [38] rfl
  have hDc : va_D (va_A [(h0, .inr (1, [.null, .int 0, .int 0]))] s.heap.size) [(q23, .inr (4, [.null, .null, .null, .int 0, .int 0, .int 0, .null, .null, .null, .null, .null, .int 0, .int 0, .int 0, .int 0, .null, .int 0, .null]))] := hD.sub [38] (by decide) rfl
  have hFc : ∀ q : Nat, va_A [(q23, .inr (4, [.null, .null, .null, .int 0, .int 0, .int 0, .null, .null, .null, .null, .null, .int 0, .int 0, .int 0, .int 0, .null, .int 0, .null]))] H24.size q → va_A [(h0, .inr (1, [.null, .int 0, .int 0]))] s.heap.size q := va_free hD hS hA [38] rfl
  refine va_callv (va_runI (As := []) (rest := [.ref q23, .int 3, .ref q1]) ⟨hx, hb, hml, hown, hts⟩ (c_X4_init l dC dI cI cC cS q23  H24.size) (cwI 0 hts gX1_init_X4_init rfl rfl rfl (hts (.initialized RX4) (List.mem_of_getElem? (i := 7) rfl)) (hts (.methodLink RX1 17 yX4_init) (List.mem_of_getElem? (i := 8) rfl)) (hts (.instanceMethod yX4_init) (List.mem_of_getElem? (i := 9) rfl)) rfl (by decide +kernel) ⟨(Nat.le_of_ble_eq_true rfl), (Nat.le_of_ble_eq_true rfl)⟩) (pN hK hPc hDc hN hO) rfl rfl hl.1 rfl (lv_room (Nat.le_of_ble_eq_true rfl)) dX1_init_28 ⟨(Nat.le_of_ble_eq_true rfl), (Nat.le_of_ble_eq_true rfl)⟩) hS (fun q _ h => hFc q h) hFc (fun u25 t_u25 H26 locs ht hvm hw hB hz1 hk1 hS => ?_)
  obtain ⟨hP1, hD1⟩ := hB
  rw [ht] at hP1
  subst hw
  obtain ⟨hP, hD⟩ := va_join (wc := [((u25 0), .inr (4, [.null, .null, .null, .int 0, .int 0, .int 0, .null, .null, .null, .null, .null, .int 0, .int 0, .int 0, .int 0, .null, .int 0, .null]))]) (wr := [(h0, .inr (1, [.ref q1, .int 0, .int 0])), (q1, .inl (cS, 5, .inr (.inr (.inr (.inr (va_up (va_up (va_up (fun _ => none) 0 (some (u7 0))) 1 (some (u13 0))) 2 (some (u19 0))))))))] ++ cSt u7 cI S0 ++ cSt u13 cI S0 ++ cSt u19 cI S0) (w1 := cSt u25 cI S0) hP hD [38] [0, 1, 2, 3, 4, 5, 6, 7, 8, 9, 10, 11, 12, 13, 14, 15, 16, 17, 18, 19, 20, 21, 22, 23, 24, 25, 26, 27, 28, 29, 30, 31, 32, 33, 34, 35, 36, 37] rfl rfl (by decide) (by decide) hk1 hFc hP1 hD1
  have hP : va_P (dC, dI) vwCl ([(h0, .inr (1, [.ref q1, .int 0, .int 0])), (q1, .inl (cS, 5, .inr (.inr (.inr (.inr (va_up (va_up (va_up (fun _ => none) 0 (some (u7 0))) 1 (some (u13 0))) 2 (some (u19 0))))))))] ++ cSt u7 cI S0 ++ cSt u13 cI S0 ++ cSt u19 cI S0 ++ cSt u25 cI S0) H26 := hP
  have hD : va_D (va_A [(h0, .inr (1, [.null, .int 0, .int 0]))] s.heap.size) ([(h0, .inr (1, [.ref q1, .int 0, .int 0])), (q1, .inl (cS, 5, .inr (.inr (.inr (.inr (va_up (va_up (va_up (fun _ => none) 0 (some (u7 0))) 1 (some (u13 0))) 2 (some (u19 0))))))))] ++ cSt u7 cI S0 ++ cSt u13 cI S0 ++ cSt u19 cI S0 ++ cSt u25 cI S0) := hD
  refine W.widen (k := 49) (n := 1017) (Nat.le_of_ble_eq_true rfl) (Nat.le_of_ble_eq_true rfl) ?_
  refine va_astq (f := va_up (va_up (va_up (fun _ => none) 0 (some (u7 0))) 1 (some (u13 0))) 2 (some (u19 0))) (r := (RX4, TX4, 18)) hx hb hK hP hD hS 1 2 38 4 rfl rfl rfl rfl (vp_of_B (by decide +kernel)) dX1_init_31 (fun H27 locs hP hD hS => ?_)
  have hP : va_P (dC, dI) vwCl ([(h0, .inr (1, [.ref q1, .int 0, .int 0])), (q1, .inl (cS, 5, .inr (.inr (.inr (.inr (va_up (va_up (va_up (va_up (fun _ => none) 0 (some (u7 0))) 1 (some (u13 0))) 2 (some (u19 0))) 3 (some (u25 0))))))))] ++ cSt u7 cI S0 ++ cSt u13 cI S0 ++ cSt u19 cI S0 ++ cSt u25 cI S0) H27 := hP
  have hD : va_D (va_A [(h0, .inr (1, [.null, .int 0, .int 0]))] s.heap.size) ([(h0, .inr (1, [.ref q1, .int 0, .int 0])), (q1, .inl (cS, 5, .inr (.inr (.inr (.inr (va_up (va_up (va_up (va_up (fun _ => none) 0 (some (u7 0))) 1 (some (u13 0))) 2 (some (u19 0))) 3 (some (u25 0))))))))] ++ cSt u7 cI S0 ++ cSt u13 cI S0 ++ cSt u19 cI S0 ++ cSt u25 cI S0) := hD
  refine lv_iinc (v := 4) (lv' := [(1, .int 4), (0, .ref h0)]) hx hb dX1_init_32 hl (k := 0) rfl (by decide) (by decide) rfl (fun ls hl => ?_)
  refine lv_goto (tgt := 14) hx hb dX1_init_35 (by decide) ?_
  refine lv_iload_n hx hb dX1_init_14 rfl (lv_at hl 0 rfl) ?_
  refine lv_iconst (v := 5) hx hb dX1_init_15 (by decide) ?_
  refine lv_icmp_ge (tgt := 38) hx hb dX1_init_16 (by decide) (fun c28 => absurd c28 (by decide)) (fun c28 => ?_)
  refine lv_aload_n hx hb dX1_init_19 rfl (lv_at hl 1 rfl) ?_
  refine va_get (D := (dC, dI)) (ci := 1) (v := .ref q1) (C := RX1) (T := TX1) (N := 3) hx hb hts hin1 hown hK hP 0 rfl rfl 0 (by decide) (hts (.fieldLink RX1 11 "FeedDesk$History" "kept" "[LFeedDesk$State;") (List.mem_of_getElem? (i := 5) rfl)) (fun _ h9 => h9) rfl dX1_init_20 ?_
  refine lv_iload_n hx hb dX1_init_23 rfl (lv_at hl 0 rfl) ?_
  refine va_new (ci := 4) (fs := [.null, .null, .null, .int 0, .int 0, .int 0, .null, .null, .null, .null, .null, .int 0, .int 0, .int 0, .int 0, .null, .int 0, .null]) (C := RX4) (T := TX4) (N := 18) hx hb hts hin4 tyX4 tyX4_ok hown (hts (.classLink RX1 9 RX4) (List.mem_of_getElem? (i := 4) rfl)) (hts (.instantiable RX4 18) (List.mem_of_getElem? (i := 6) rfl)) (hts (.initialized RX4) (List.mem_of_getElem? (i := 7) rfl)) hK hP hD hS hA rfl (fun j hj => by rcases (show j = 0 ∨ j = 1 ∨ j = 2 ∨ j = 3 ∨ j = 4 ∨ j = 5 ∨ j = 6 ∨ j = 7 ∨ j = 8 ∨ j = 9 ∨ j = 10 ∨ j = 11 ∨ j = 12 ∨ j = 13 ∨ j = 14 ∨ j = 15 ∨ j = 16 ∨ j = 17 by omega) with rfl | rfl | rfl | rfl | rfl | rfl | rfl | rfl | rfl | rfl | rfl | rfl | rfl | rfl | rfl | rfl | rfl | rfl <;> rfl) (Nat.le_of_ble_eq_true rfl) (Nat.le_of_ble_eq_true rfl) dX1_init_24 (fun q29 H30 hP hD hS => ?_)
  have hP : va_P (dC, dI) vwCl ([(h0, .inr (1, [.ref q1, .int 0, .int 0])), (q1, .inl (cS, 5, .inr (.inr (.inr (.inr (va_up (va_up (va_up (va_up (fun _ => none) 0 (some (u7 0))) 1 (some (u13 0))) 2 (some (u19 0))) 3 (some (u25 0))))))))] ++ cSt u7 cI S0 ++ cSt u13 cI S0 ++ cSt u19 cI S0 ++ cSt u25 cI S0 ++ [(q29, .inr (4, [.null, .null, .null, .int 0, .int 0, .int 0, .null, .null, .null, .null, .null, .int 0, .int 0, .int 0, .int 0, .null, .int 0, .null]))]) H30 := hP
  have hD : va_D (va_A [(h0, .inr (1, [.null, .int 0, .int 0]))] s.heap.size) ([(h0, .inr (1, [.ref q1, .int 0, .int 0])), (q1, .inl (cS, 5, .inr (.inr (.inr (.inr (va_up (va_up (va_up (va_up (fun _ => none) 0 (some (u7 0))) 1 (some (u13 0))) 2 (some (u19 0))) 3 (some (u25 0))))))))] ++ cSt u7 cI S0 ++ cSt u13 cI S0 ++ cSt u19 cI S0 ++ cSt u25 cI S0 ++ [(q29, .inr (4, [.null, .null, .null, .int 0, .int 0, .int 0, .null, .null, .null, .null, .null, .int 0, .int 0, .int 0, .int 0, .null, .int 0, .null]))]) := hD
  refine W.widen (k := 50) (n := 1035) (Nat.le_of_ble_eq_true rfl) (Nat.le_of_ble_eq_true rfl) ?_
  refine lv_dup hx hb dX1_init_27 rfl ?_
  have hPc : va_P (dC, dI) vwCl [(q29, .inr (4, [.null, .null, .null, .int 0, .int 0, .int 0, .null, .null, .null, .null, .null, .int 0, .int 0, .int 0, .int 0, .null, .int 0, .null]))] H30 := hP.sub [50] rfl
  have hDc : va_D (va_A [(h0, .inr (1, [.null, .int 0, .int 0]))] s.heap.size) [(q29, .inr (4, [.null, .null, .null, .int 0, .int 0, .int 0, .null, .null, .null, .null, .null, .int 0, .int 0, .int 0, .int 0, .null, .int 0, .null]))] := hD.sub [50] (by decide) rfl
  have hFc : ∀ q : Nat, va_A [(q29, .inr (4, [.null, .null, .null, .int 0, .int 0, .int 0, .null, .null, .null, .null, .null, .int 0, .int 0, .int 0, .int 0, .null, .int 0, .null]))] H30.size q → va_A [(h0, .inr (1, [.null, .int 0, .int 0]))] s.heap.size q := va_free hD hS hA [50] rfl
  refine va_callv (va_runI (As := []) (rest := [.ref q29, .int 4, .ref q1]) ⟨hx, hb, hml, hown, hts⟩ (c_X4_init l dC dI cI cC cS q29  H30.size) (cwI 0 hts gX1_init_X4_init rfl rfl rfl (hts (.initialized RX4) (List.mem_of_getElem? (i := 7) rfl)) (hts (.methodLink RX1 17 yX4_init) (List.mem_of_getElem? (i := 8) rfl)) (hts (.instanceMethod yX4_init) (List.mem_of_getElem? (i := 9) rfl)) rfl (by decide +kernel) ⟨(Nat.le_of_ble_eq_true rfl), (Nat.le_of_ble_eq_true rfl)⟩) (pN hK hPc hDc hN hO) rfl rfl hl.1 rfl (lv_room (Nat.le_of_ble_eq_true rfl)) dX1_init_28 ⟨(Nat.le_of_ble_eq_true rfl), (Nat.le_of_ble_eq_true rfl)⟩) hS (fun q _ h => hFc q h) hFc (fun u31 t_u31 H32 locs ht hvm hw hB hz1 hk1 hS => ?_)
  obtain ⟨hP1, hD1⟩ := hB
  rw [ht] at hP1
  subst hw
  obtain ⟨hP, hD⟩ := va_join (wc := [((u31 0), .inr (4, [.null, .null, .null, .int 0, .int 0, .int 0, .null, .null, .null, .null, .null, .int 0, .int 0, .int 0, .int 0, .null, .int 0, .null]))]) (wr := [(h0, .inr (1, [.ref q1, .int 0, .int 0])), (q1, .inl (cS, 5, .inr (.inr (.inr (.inr (va_up (va_up (va_up (va_up (fun _ => none) 0 (some (u7 0))) 1 (some (u13 0))) 2 (some (u19 0))) 3 (some (u25 0))))))))] ++ cSt u7 cI S0 ++ cSt u13 cI S0 ++ cSt u19 cI S0 ++ cSt u25 cI S0) (w1 := cSt u31 cI S0) hP hD [50] [0, 1, 2, 3, 4, 5, 6, 7, 8, 9, 10, 11, 12, 13, 14, 15, 16, 17, 18, 19, 20, 21, 22, 23, 24, 25, 26, 27, 28, 29, 30, 31, 32, 33, 34, 35, 36, 37, 38, 39, 40, 41, 42, 43, 44, 45, 46, 47, 48, 49] rfl rfl (by decide) (by decide) hk1 hFc hP1 hD1
  have hP : va_P (dC, dI) vwCl ([(h0, .inr (1, [.ref q1, .int 0, .int 0])), (q1, .inl (cS, 5, .inr (.inr (.inr (.inr (va_up (va_up (va_up (va_up (fun _ => none) 0 (some (u7 0))) 1 (some (u13 0))) 2 (some (u19 0))) 3 (some (u25 0))))))))] ++ cSt u7 cI S0 ++ cSt u13 cI S0 ++ cSt u19 cI S0 ++ cSt u25 cI S0 ++ cSt u31 cI S0) H32 := hP
  have hD : va_D (va_A [(h0, .inr (1, [.null, .int 0, .int 0]))] s.heap.size) ([(h0, .inr (1, [.ref q1, .int 0, .int 0])), (q1, .inl (cS, 5, .inr (.inr (.inr (.inr (va_up (va_up (va_up (va_up (fun _ => none) 0 (some (u7 0))) 1 (some (u13 0))) 2 (some (u19 0))) 3 (some (u25 0))))))))] ++ cSt u7 cI S0 ++ cSt u13 cI S0 ++ cSt u19 cI S0 ++ cSt u25 cI S0 ++ cSt u31 cI S0) := hD
  refine W.widen (k := 61) (n := 1270) (Nat.le_of_ble_eq_true rfl) (Nat.le_of_ble_eq_true rfl) ?_
  refine va_astq (f := va_up (va_up (va_up (va_up (fun _ => none) 0 (some (u7 0))) 1 (some (u13 0))) 2 (some (u19 0))) 3 (some (u25 0))) (r := (RX4, TX4, 18)) hx hb hK hP hD hS 1 2 50 4 rfl rfl rfl rfl (vp_of_B (by decide +kernel)) dX1_init_31 (fun H33 locs hP hD hS => ?_)
  have hP : va_P (dC, dI) vwCl ([(h0, .inr (1, [.ref q1, .int 0, .int 0])), (q1, .inl (cS, 5, .inr (.inr (.inr (.inr (va_up (va_up (va_up (va_up (va_up (fun _ => none) 0 (some (u7 0))) 1 (some (u13 0))) 2 (some (u19 0))) 3 (some (u25 0))) 4 (some (u31 0))))))))] ++ cSt u7 cI S0 ++ cSt u13 cI S0 ++ cSt u19 cI S0 ++ cSt u25 cI S0 ++ cSt u31 cI S0) H33 := hP
  have hD : va_D (va_A [(h0, .inr (1, [.null, .int 0, .int 0]))] s.heap.size) ([(h0, .inr (1, [.ref q1, .int 0, .int 0])), (q1, .inl (cS, 5, .inr (.inr (.inr (.inr (va_up (va_up (va_up (va_up (va_up (fun _ => none) 0 (some (u7 0))) 1 (some (u13 0))) 2 (some (u19 0))) 3 (some (u25 0))) 4 (some (u31 0))))))))] ++ cSt u7 cI S0 ++ cSt u13 cI S0 ++ cSt u19 cI S0 ++ cSt u25 cI S0 ++ cSt u31 cI S0) := hD
  refine lv_iinc (v := 5) (lv' := [(1, .int 5), (0, .ref h0)]) hx hb dX1_init_32 hl (k := 0) rfl (by decide) (by decide) rfl (fun ls hl => ?_)
  refine lv_goto (tgt := 14) hx hb dX1_init_35 (by decide) ?_
  refine lv_iload_n hx hb dX1_init_14 rfl (lv_at hl 0 rfl) ?_
  refine lv_iconst (v := 5) hx hb dX1_init_15 (by decide) ?_
  refine lv_icmp_ge (tgt := 38) hx hb dX1_init_16 (by decide) (fun c34 => ?_) (fun c34 => absurd (by decide) c34)
  obtain ⟨hP, hD⟩ := setq_same (q1 := 1) (ws := [(h0, .inr (1, [.ref q1, .int 0, .int 0])), (q1, .inl (cS, 5, .inr (.inr (.inr (.inr (va_up (va_up (va_up (va_up (va_up (fun _ => none) 0 (some (u7 0))) 1 (some (u13 0))) 2 (some (u19 0))) 3 (some (u25 0))) 4 (some (u31 0))))))))] ++ cSt u7 cI S0 ++ cSt u13 cI S0 ++ cSt u19 cI S0 ++ cSt u25 cI S0 ++ cSt u31 cI S0) (a := q1) (cA := cS) (n := 5) (f := va_up (va_up (va_up (va_up (va_up (fun _ => none) 0 (some (u7 0))) 1 (some (u13 0))) 2 (some (u19 0))) 3 (some (u25 0))) 4 (some (u31 0))) (g := (fun i => some ((jn 2 (lk [h0, q1] (fun _ => 0)) (jn 12 u7 (jn 12 u13 (jn 12 u19 (jn 12 u25 (u31)))))) (2 + 12 * i)))) (fun q hq => by rcases (show q = 0 ∨ q = 1 ∨ q = 2 ∨ q = 3 ∨ q = 4 by omega) with rfl | rfl | rfl | rfl | rfl <;> rfl) hP hD
  have hP9 : va_P (dC, dI) vwCl (cHs (jn 2 (lk [h0, q1] (fun _ => 0)) (jn 12 u7 (jn 12 u13 (jn 12 u19 (jn 12 u25 (u31)))))) cI cS) H33 := hP.sub [0, 1, 2, 3, 4, 5, 6, 7, 8, 9, 10, 11, 12, 13, 14, 15, 16, 17, 18, 19, 20, 21, 22, 23, 24, 25, 26, 27, 28, 29, 30, 31, 32, 33, 34, 35, 36, 37, 38, 39, 40, 41, 42, 43, 44, 45, 46, 47, 48, 49, 50, 51, 52, 53, 54, 55, 56, 57, 58, 59, 60, 61] rfl
  have hD9 : va_D (va_A [(h0, .inr (1, [.null, .int 0, .int 0]))] s.heap.size) (cHs (jn 2 (lk [h0, q1] (fun _ => 0)) (jn 12 u7 (jn 12 u13 (jn 12 u19 (jn 12 u25 (u31)))))) cI cS) := hD.sub [0, 1, 2, 3, 4, 5, 6, 7, 8, 9, 10, 11, 12, 13, 14, 15, 16, 17, 18, 19, 20, 21, 22, 23, 24, 25, 26, 27, 28, 29, 30, 31, 32, 33, 34, 35, 36, 37, 38, 39, 40, 41, 42, 43, 44, 45, 46, 47, 48, 49, 50, 51, 52, 53, 54, 55, 56, 57, 58, 59, 60, 61] (by decide) rfl
  exact W.vret hx hb hr (fun t ht hWw => ⟨⟨jn 2 (lk [h0, q1] (fun _ => 0)) (jn 12 u7 (jn 12 u13 (jn 12 u19 (jn 12 u25 (u31))))), rfl, rfl, by rw [ht]; exact hP9, hD9⟩, hS.F ht⟩) hS.2.2 dX1_init_38
abbrev rm_X2_init : Room := { frames := 1, cells := 1, slots := 140, locals := 12 }
set_option maxHeartbeats 4000000 in
set_option maxRecDepth 100000 in
theorem c_X2_init (l : Launch) (dC : Nat → ClassId) (dI : Nat → Nat → Nat) (cI cC cS : ClassId) (h0 : Nat) (sz : Nat) : Met l yX2_init wsX2_init rm_X2_init (PcN (dC, dI) (tyL cI cC cS) [(h0, .inr (2, [.null, .int 0, .int 0]))] sz [.ref h0]) (va_Qv (fun q : Nat → Nat => q 0 = h0) (fun q U => va_P (dC, dI) vwCl (cPt q cC Z0) U.heap ∧ va_D (va_A [(h0, .inr (2, [.null, .int 0, .int 0]))] sz) (cPt q cC Z0)) (va_A [(h0, .inr (2, [.null, .int 0, .int 0]))] sz)) 1 140 (va_A [(h0, .inr (2, [.null, .int 0, .int 0]))] sz) := by
  refine Met.ofW (cc := cX2_init) (maxL := 1) (ret := none) (by decide) rfl ?_
  intro p e s m args below meth c s₁ B hml hv
  obtain ⟨rfl, hsz, hP, hK, hD0, hN, hO⟩ := hv
  have hx := B.exec
  have hb := B.bytes
  have hr := B.returns
  have hts := atoms_spec (ws := wsX2_init) B.pre
  have hown : s.vm.findClass RX2 = some m.cls := findClass_of_methodNamed B.named
  have hlocks := B.notSynchronized
  have hin : meth.name = "<init>" := (name_of_methodNamed B.named B.method).1
  subst hsz
  have hD := hD0.self (sz := s.heap.size)
  have hA : ∀ q : Nat, s.heap.size ≤ q → va_A [(h0, .inr (2, [.null, .int 0, .int 0]))] s.heap.size q := fun q h => Or.inr h
  have hS : va_S (va_A [(h0, .inr (2, [.null, .int 0, .int 0]))] s.heap.size) s.heap s.heap [] := va_S.rf
  have hin2 : ∀ w ∈ wsX20, w ∈ wsX2_init := fun _ h => List.mem_cons_of_mem _ (List.mem_append_right _ h)
  have hl := lv_entry [.ref h0] (n := 1) (Nat.le_of_ble_eq_true rfl)
  rw [lg_entry_eq]
  generalize (lg_sl [.ref h0] ++ List.replicate (1 - (lg_sl [.ref h0]).length) Slot.unset).toArray = ls at hl ⊢
  have hl : lv_has ls 1 [(0, .ref h0)] := hl
  refine lv_aload_n hx hb dX2_init_0 rfl (lv_at hl 0 rfl) ?_
  refine W.objInit hx hb hown (hts (.methodLink RX2 3 objectInit) (List.mem_of_getElem? (i := 1) rfl)) (hts (.instanceMethod objectInit) (List.mem_of_getElem? (i := 2) rfl)) (hts (.code objectInit ⟨#[0xb1]⟩ 1 none) (List.mem_of_getElem? (i := 3) rfl)) rfl (by rw [hml]; exact hl.1) rfl dX2_init_1 (Nat.le_of_ble_eq_true rfl) (Nat.le_of_ble_eq_true rfl) ?_
  refine W.eq (g2 := F0 m 4 ls []) rfl ?_
  refine lv_aload_n hx hb dX2_init_4 rfl (lv_at hl 0 rfl) ?_
  refine lv_sipush (v := 140) hx hb dX2_init_5 (by decide) ?_
  refine va_newa (atype := .char) (ty := .char) (a0 := (140, .inl z0)) (N' := 140) hx hb (hts (.arrayClass .char) (List.mem_of_getElem? (i := 4) rfl)) rfl hK hP hD hS hA (fun cA => rfl) (by decide) (by decide +kernel) (Nat.le_of_ble_eq_true rfl) (Nat.le_of_ble_eq_true rfl) (Nat.le_of_ble_eq_true rfl) dX2_init_8 (fun q1 cA H2 hK1 hP hD hS => ?_)
  have eA := char_same 1 3 hK rfl hK1 rfl
  rw [eA] at hP hD
  clear eA hK1
  have hP : va_P (dC, dI) vwCl ([(h0, .inr (2, [.null, .int 0, .int 0])), (q1, .inl (cC, 140, .inl z0))]) H2 := hP
  have hD : va_D (va_A [(h0, .inr (2, [.null, .int 0, .int 0]))] s.heap.size) ([(h0, .inr (2, [.null, .int 0, .int 0])), (q1, .inl (cC, 140, .inl z0))]) := hD
  refine W.widen (k := 1) (n := 140) (Nat.le_of_ble_eq_true rfl) (Nat.le_of_ble_eq_true rfl) ?_
  refine va_putF (D := (dC, dI)) (ci := 2) (v := .ref q1) (ty := .array .char) (C := RX2) (T := TX2) (N := 3) hx hb hts hin2 tyX2 tyX2_ok nmX2 hown hK hP hD hS 0 rfl rfl 0 (by decide) (hts (.fieldLink RX2 9 "FeedDesk$Patch" "text" "[C") (List.mem_of_getElem? (i := 5) rfl)) (fun _ h9 => h9) rfl hin rfl (by decide +kernel) rfl rfl (Nat.le_of_ble_eq_true rfl) dX2_init_10 (fun H3 locs hP hD hS => ?_)
  have hP : va_P (dC, dI) vwCl ([(h0, .inr (2, [.ref q1, .int 0, .int 0])), (q1, .inl (cC, 140, .inl z0))]) H3 := hP
  have hD : va_D (va_A [(h0, .inr (2, [.null, .int 0, .int 0]))] s.heap.size) ([(h0, .inr (2, [.ref q1, .int 0, .int 0])), (q1, .inl (cC, 140, .inl z0))]) := hD
  have hP9 : va_P (dC, dI) vwCl (cPt (lk [h0, q1] (fun _ => 0)) cC Z0) H3 := hP.sub [0, 1] rfl
  have hD9 : va_D (va_A [(h0, .inr (2, [.null, .int 0, .int 0]))] s.heap.size) (cPt (lk [h0, q1] (fun _ => 0)) cC Z0) := hD.sub [0, 1] (by decide) rfl
  exact W.vret hx hb hr (fun t ht hWw => ⟨⟨lk [h0, q1] (fun _ => 0), rfl, rfl, by rw [ht]; exact hP9, hD9⟩, hS.F ht⟩) hS.2.2 dX2_init_13
abbrev rm_X3_init : Room := { frames := 1, cells := 3, slots := 28, locals := 12 }
set_option maxHeartbeats 4000000 in
set_option maxRecDepth 100000 in
theorem c_X3_init (l : Launch) (dC : Nat → ClassId) (dI : Nat → Nat → Nat) (cI cC cS : ClassId) (h0 : Nat) (p1 : Nat) (sz : Nat) : Met l yX3_init wsX3_init rm_X3_init (PcN (dC, dI) (tyL cI cC cS) [(h0, .inr (3, [.null, .null, .null, .null]))] sz [.ref h0, .ref p1]) (va_Qv (fun q : Nat → Nat => q 0 = h0) (fun q U => va_P (dC, dI) vwCl (cRt q (fun _ => p1) cI Z0) U.heap ∧ va_D (va_A [(h0, .inr (3, [.null, .null, .null, .null]))] sz) (cRt q (fun _ => p1) cI Z0)) (va_A [(h0, .inr (3, [.null, .null, .null, .null]))] sz)) 3 28 (va_A [(h0, .inr (3, [.null, .null, .null, .null]))] sz) := by
  refine Met.ofW (cc := cX3_init) (maxL := 2) (ret := none) (by decide) rfl ?_
  intro p e s m args below meth c s₁ B hml hv
  obtain ⟨rfl, hsz, hP, hK, hD0, hN, hO⟩ := hv
  have hx := B.exec
  have hb := B.bytes
  have hr := B.returns
  have hts := atoms_spec (ws := wsX3_init) B.pre
  have hown : s.vm.findClass RX3 = some m.cls := findClass_of_methodNamed B.named
  have hlocks := B.notSynchronized
  have hin : meth.name = "<init>" := (name_of_methodNamed B.named B.method).1
  subst hsz
  have hD := hD0.self (sz := s.heap.size)
  have hA : ∀ q : Nat, s.heap.size ≤ q → va_A [(h0, .inr (3, [.null, .null, .null, .null]))] s.heap.size q := fun q h => Or.inr h
  have hS : va_S (va_A [(h0, .inr (3, [.null, .null, .null, .null]))] s.heap.size) s.heap s.heap [] := va_S.rf
  have hin3 : ∀ w ∈ wsX30, w ∈ wsX3_init := fun _ h => List.mem_cons_of_mem _ (List.mem_append_right _ h)
  have hl := lv_entry [.ref h0, .ref p1] (n := 2) (Nat.le_of_ble_eq_true rfl)
  rw [lg_entry_eq]
  generalize (lg_sl [.ref h0, .ref p1] ++ List.replicate (2 - (lg_sl [.ref h0, .ref p1]).length) Slot.unset).toArray = ls at hl ⊢
  have hl : lv_has ls 2 [(0, .ref h0), (1, .ref p1)] := hl
  refine lv_aload_n hx hb dX3_init_0 rfl (lv_at hl 0 rfl) ?_
  refine W.objInit hx hb hown (hts (.methodLink RX3 3 objectInit) (List.mem_of_getElem? (i := 1) rfl)) (hts (.instanceMethod objectInit) (List.mem_of_getElem? (i := 2) rfl)) (hts (.code objectInit ⟨#[0xb1]⟩ 1 none) (List.mem_of_getElem? (i := 3) rfl)) rfl (by rw [hml]; exact hl.1) rfl dX3_init_1 (Nat.le_of_ble_eq_true rfl) (Nat.le_of_ble_eq_true rfl) ?_
  refine W.eq (g2 := F0 m 4 ls []) rfl ?_
  refine lv_aload_n hx hb dX3_init_4 rfl (lv_at hl 0 rfl) ?_
  refine lv_bipush (v := 12) hx hb dX3_init_5 (by decide) ?_
  refine va_newa (atype := .int) (ty := .int) (a0 := (12, .inl z0)) (N' := 12) hx hb (hts (.arrayClass .int) (List.mem_of_getElem? (i := 4) rfl)) rfl hK hP hD hS hA (fun cA => rfl) (by decide) (by decide +kernel) (Nat.le_of_ble_eq_true rfl) (Nat.le_of_ble_eq_true rfl) (Nat.le_of_ble_eq_true rfl) dX3_init_7 (fun q1 cA H2 hK1 hP hD hS => ?_)
  have eA := int_same 0 3 hK rfl hK1 rfl
  rw [eA] at hP hD
  clear eA hK1
  have hP : va_P (dC, dI) vwCl ([(h0, .inr (3, [.null, .null, .null, .null])), (q1, .inl (cI, 12, .inl z0))]) H2 := hP
  have hD : va_D (va_A [(h0, .inr (3, [.null, .null, .null, .null]))] s.heap.size) ([(h0, .inr (3, [.null, .null, .null, .null])), (q1, .inl (cI, 12, .inl z0))]) := hD
  refine W.widen (k := 1) (n := 12) (Nat.le_of_ble_eq_true rfl) (Nat.le_of_ble_eq_true rfl) ?_
  refine va_putF (D := (dC, dI)) (ci := 3) (v := .ref q1) (ty := .array .int) (C := RX3) (T := TX3) (N := 4) hx hb hts hin3 tyX3 tyX3_ok nmX3 hown hK hP hD hS 0 rfl rfl 1 (by decide) (hts (.fieldLink RX3 9 "FeedDesk$Routes" "reached" "[I") (List.mem_of_getElem? (i := 5) rfl)) (fun _ h9 => h9) rfl hin rfl (by decide +kernel) rfl rfl (Nat.le_of_ble_eq_true rfl) dX3_init_9 (fun H3 locs hP hD hS => ?_)
  have hP : va_P (dC, dI) vwCl ([(h0, .inr (3, [.null, .ref q1, .null, .null])), (q1, .inl (cI, 12, .inl z0))]) H3 := hP
  have hD : va_D (va_A [(h0, .inr (3, [.null, .null, .null, .null]))] s.heap.size) ([(h0, .inr (3, [.null, .ref q1, .null, .null])), (q1, .inl (cI, 12, .inl z0))]) := hD
  refine lv_aload_n hx hb dX3_init_12 rfl (lv_at hl 0 rfl) ?_
  refine lv_bipush (v := 12) hx hb dX3_init_13 (by decide) ?_
  refine va_newa (atype := .int) (ty := .int) (a0 := (12, .inl z0)) (N' := 12) hx hb (hts (.arrayClass .int) (List.mem_of_getElem? (i := 4) rfl)) rfl hK hP hD hS hA (fun cA => rfl) (by decide) (by decide +kernel) (Nat.le_of_ble_eq_true rfl) (Nat.le_of_ble_eq_true rfl) (Nat.le_of_ble_eq_true rfl) dX3_init_15 (fun q4 cA H5 hK1 hP hD hS => ?_)
  have eA := int_same 0 3 hK rfl hK1 rfl
  rw [eA] at hP hD
  clear eA hK1
  have hP : va_P (dC, dI) vwCl ([(h0, .inr (3, [.null, .ref q1, .null, .null])), (q1, .inl (cI, 12, .inl z0)), (q4, .inl (cI, 12, .inl z0))]) H5 := hP
  have hD : va_D (va_A [(h0, .inr (3, [.null, .null, .null, .null]))] s.heap.size) ([(h0, .inr (3, [.null, .ref q1, .null, .null])), (q1, .inl (cI, 12, .inl z0)), (q4, .inl (cI, 12, .inl z0))]) := hD
  refine W.widen (k := 2) (n := 24) (Nat.le_of_ble_eq_true rfl) (Nat.le_of_ble_eq_true rfl) ?_
  refine va_putF (D := (dC, dI)) (ci := 3) (v := .ref q4) (ty := .array .int) (C := RX3) (T := TX3) (N := 4) hx hb hts hin3 tyX3 tyX3_ok nmX3 hown hK hP hD hS 0 rfl rfl 2 (by decide) (hts (.fieldLink RX3 15 "FeedDesk$Routes" "distance" "[I") (List.mem_of_getElem? (i := 6) rfl)) (fun _ h9 => h9) rfl hin rfl (by decide +kernel) rfl rfl (Nat.le_of_ble_eq_true rfl) dX3_init_17 (fun H6 locs hP hD hS => ?_)
  have hP : va_P (dC, dI) vwCl ([(h0, .inr (3, [.null, .ref q1, .ref q4, .null])), (q1, .inl (cI, 12, .inl z0)), (q4, .inl (cI, 12, .inl z0))]) H6 := hP
  have hD : va_D (va_A [(h0, .inr (3, [.null, .null, .null, .null]))] s.heap.size) ([(h0, .inr (3, [.null, .ref q1, .ref q4, .null])), (q1, .inl (cI, 12, .inl z0)), (q4, .inl (cI, 12, .inl z0))]) := hD
  refine lv_aload_n hx hb dX3_init_20 rfl (lv_at hl 0 rfl) ?_
  refine lv_iconst (v := 4) hx hb dX3_init_21 (by decide) ?_
  refine va_newa (atype := .int) (ty := .int) (a0 := (4, .inl z0)) (N' := 4) hx hb (hts (.arrayClass .int) (List.mem_of_getElem? (i := 4) rfl)) rfl hK hP hD hS hA (fun cA => rfl) (by decide) (by decide +kernel) (Nat.le_of_ble_eq_true rfl) (Nat.le_of_ble_eq_true rfl) (Nat.le_of_ble_eq_true rfl) dX3_init_22 (fun q7 cA H8 hK1 hP hD hS => ?_)
  have eA := int_same 0 3 hK rfl hK1 rfl
  rw [eA] at hP hD
  clear eA hK1
  have hP : va_P (dC, dI) vwCl ([(h0, .inr (3, [.null, .ref q1, .ref q4, .null])), (q1, .inl (cI, 12, .inl z0)), (q4, .inl (cI, 12, .inl z0)), (q7, .inl (cI, 4, .inl z0))]) H8 := hP
  have hD : va_D (va_A [(h0, .inr (3, [.null, .null, .null, .null]))] s.heap.size) ([(h0, .inr (3, [.null, .ref q1, .ref q4, .null])), (q1, .inl (cI, 12, .inl z0)), (q4, .inl (cI, 12, .inl z0)), (q7, .inl (cI, 4, .inl z0))]) := hD
  refine W.widen (k := 3) (n := 28) (Nat.le_of_ble_eq_true rfl) (Nat.le_of_ble_eq_true rfl) ?_
  refine va_putF (D := (dC, dI)) (ci := 3) (v := .ref q7) (ty := .array .int) (C := RX3) (T := TX3) (N := 4) hx hb hts hin3 tyX3 tyX3_ok nmX3 hown hK hP hD hS 0 rfl rfl 3 (by decide) (hts (.fieldLink RX3 18 "FeedDesk$Routes" "best" "[I") (List.mem_of_getElem? (i := 7) rfl)) (fun _ h9 => h9) rfl hin rfl (by decide +kernel) rfl rfl (Nat.le_of_ble_eq_true rfl) dX3_init_24 (fun H9 locs hP hD hS => ?_)
  have hP : va_P (dC, dI) vwCl ([(h0, .inr (3, [.null, .ref q1, .ref q4, .ref q7])), (q1, .inl (cI, 12, .inl z0)), (q4, .inl (cI, 12, .inl z0)), (q7, .inl (cI, 4, .inl z0))]) H9 := hP
  have hD : va_D (va_A [(h0, .inr (3, [.null, .null, .null, .null]))] s.heap.size) ([(h0, .inr (3, [.null, .ref q1, .ref q4, .ref q7])), (q1, .inl (cI, 12, .inl z0)), (q4, .inl (cI, 12, .inl z0)), (q7, .inl (cI, 4, .inl z0))]) := hD
  refine lv_aload_n hx hb dX3_init_27 rfl (lv_at hl 0 rfl) ?_
  refine lv_aload_n hx hb dX3_init_28 rfl (lv_at hl 1 rfl) ?_
  refine va_putF (D := (dC, dI)) (ci := 3) (v := .ref p1) (ty := .object "FeedDesk$State") (C := RX3) (T := TX3) (N := 4) hx hb hts hin3 tyX3 tyX3_ok nmX3 hown hK hP hD hS 0 rfl rfl 0 (by decide) (hts (.fieldLink RX3 21 "FeedDesk$Routes" "desk" "LFeedDesk$State;") (List.mem_of_getElem? (i := 8) rfl)) (fun _ h9 => h9) rfl hin rfl (by decide +kernel) rfl rfl (Nat.le_of_ble_eq_true rfl) dX3_init_29 (fun H10 locs hP hD hS => ?_)
  have hP : va_P (dC, dI) vwCl ([(h0, .inr (3, [.ref p1, .ref q1, .ref q4, .ref q7])), (q1, .inl (cI, 12, .inl z0)), (q4, .inl (cI, 12, .inl z0)), (q7, .inl (cI, 4, .inl z0))]) H10 := hP
  have hD : va_D (va_A [(h0, .inr (3, [.null, .null, .null, .null]))] s.heap.size) ([(h0, .inr (3, [.ref p1, .ref q1, .ref q4, .ref q7])), (q1, .inl (cI, 12, .inl z0)), (q4, .inl (cI, 12, .inl z0)), (q7, .inl (cI, 4, .inl z0))]) := hD
  have hP9 : va_P (dC, dI) vwCl (cRt (lk [h0, q1, q4, q7] (fun _ => 0)) (fun _ => p1) cI Z0) H10 := hP.sub [0, 1, 2, 3] rfl
  have hD9 : va_D (va_A [(h0, .inr (3, [.null, .null, .null, .null]))] s.heap.size) (cRt (lk [h0, q1, q4, q7] (fun _ => 0)) (fun _ => p1) cI Z0) := hD.sub [0, 1, 2, 3] (by decide) rfl
  exact W.vret hx hb hr (fun t ht hWw => ⟨⟨lk [h0, q1, q4, q7] (fun _ => 0), rfl, rfl, by rw [ht]; exact hP9, hD9⟩, hS.F ht⟩) hS.2.2 dX3_init_32
abbrev rm_X5_init : Room := { frames := 4, cells := 92, slots := 1954, locals := 74 }
set_option maxHeartbeats 4000000 in
set_option maxRecDepth 100000 in
theorem c_X5_init (l : Launch) (dC : Nat → ClassId) (dI : Nat → Nat → Nat) (cI cC cS : ClassId) (h0 : Nat) (sz : Nat) : Met l yX5_init wsX5_init rm_X5_init (PcN (dC, dI) (tyL cI cC cS) [(h0, .inr (5, [.null, .null, .null, .null, .null]))] sz [.ref h0]) (va_Qv (fun q : Nat → Nat => q 0 = h0) (fun q U => va_P (dC, dI) vwCl (cDk q cI cC cS G0) U.heap ∧ va_D (va_A [(h0, .inr (5, [.null, .null, .null, .null, .null]))] sz) (cDk q cI cC cS G0)) (va_A [(h0, .inr (5, [.null, .null, .null, .null, .null]))] sz)) 92 1954 (va_A [(h0, .inr (5, [.null, .null, .null, .null, .null]))] sz) := by
  refine Met.ofW (cc := cX5_init) (maxL := 1) (ret := none) (by decide) rfl ?_
  intro p e s m args below meth c s₁ B hml hv
  obtain ⟨rfl, hsz, hP, hK, hD0, hN, hO⟩ := hv
  have hx := B.exec
  have hb := B.bytes
  have hr := B.returns
  have hts := atoms_spec (ws := wsX5_init) B.pre
  have hown : s.vm.findClass RX5 = some m.cls := findClass_of_methodNamed B.named
  have hlocks := B.notSynchronized
  have hin : meth.name = "<init>" := (name_of_methodNamed B.named B.method).1
  subst hsz
  have hD := hD0.self (sz := s.heap.size)
  have hA : ∀ q : Nat, s.heap.size ≤ q → va_A [(h0, .inr (5, [.null, .null, .null, .null, .null]))] s.heap.size q := fun q h => Or.inr h
  have hS : va_S (va_A [(h0, .inr (5, [.null, .null, .null, .null, .null]))] s.heap.size) s.heap s.heap [] := va_S.rf
  have hin4 : ∀ w ∈ wsX40, w ∈ wsX5_init := fun _ h => List.mem_cons_of_mem _ (List.mem_append_left _ (List.mem_append_left _ (List.mem_append_left _ (List.mem_append_left _ (List.mem_append_left _ (List.mem_append_right _ h))))))
  have hin5 : ∀ w ∈ wsX50, w ∈ wsX5_init := fun _ h => List.mem_cons_of_mem _ (List.mem_append_left _ (List.mem_append_left _ (List.mem_append_left _ (List.mem_append_left _ (List.mem_append_right _ h)))))
  have hin1 : ∀ w ∈ wsX10, w ∈ wsX5_init := fun _ h => List.mem_cons_of_mem _ (List.mem_append_left _ (List.mem_append_left _ (List.mem_append_left _ (List.mem_append_right _ h))))
  have hin3 : ∀ w ∈ wsX30, w ∈ wsX5_init := fun _ h => List.mem_cons_of_mem _ (List.mem_append_left _ (List.mem_append_left _ (List.mem_append_right _ h)))
  have hin2 : ∀ w ∈ wsX20, w ∈ wsX5_init := fun _ h => List.mem_cons_of_mem _ (List.mem_append_left _ (List.mem_append_right _ h))
  have hl := lv_entry [.ref h0] (n := 1) (Nat.le_of_ble_eq_true rfl)
  rw [lg_entry_eq]
  generalize (lg_sl [.ref h0] ++ List.replicate (1 - (lg_sl [.ref h0]).length) Slot.unset).toArray = ls at hl ⊢
  have hl : lv_has ls 1 [(0, .ref h0)] := hl
  refine lv_aload_n hx hb dX5_init_0 rfl (lv_at hl 0 rfl) ?_
  refine W.objInit hx hb hown (hts (.methodLink RX5 3 objectInit) (List.mem_of_getElem? (i := 1) rfl)) (hts (.instanceMethod objectInit) (List.mem_of_getElem? (i := 2) rfl)) (hts (.code objectInit ⟨#[0xb1]⟩ 1 none) (List.mem_of_getElem? (i := 3) rfl)) rfl (by rw [hml]; exact hl.1) rfl dX5_init_1 (Nat.le_of_ble_eq_true rfl) (Nat.le_of_ble_eq_true rfl) ?_
  refine W.eq (g2 := F0 m 4 ls []) rfl ?_
  refine lv_aload_n hx hb dX5_init_4 rfl (lv_at hl 0 rfl) ?_
  refine va_new (ci := 4) (fs := [.null, .null, .null, .int 0, .int 0, .int 0, .null, .null, .null, .null, .null, .int 0, .int 0, .int 0, .int 0, .null, .int 0, .null]) (C := RX4) (T := TX4) (N := 18) hx hb hts hin4 tyX4 tyX4_ok hown (hts (.classLink RX5 9 RX4) (List.mem_of_getElem? (i := 4) rfl)) (hts (.instantiable RX4 18) (List.mem_of_getElem? (i := 5) rfl)) (hts (.initialized RX4) (List.mem_of_getElem? (i := 6) rfl)) hK hP hD hS hA rfl (fun j hj => by rcases (show j = 0 ∨ j = 1 ∨ j = 2 ∨ j = 3 ∨ j = 4 ∨ j = 5 ∨ j = 6 ∨ j = 7 ∨ j = 8 ∨ j = 9 ∨ j = 10 ∨ j = 11 ∨ j = 12 ∨ j = 13 ∨ j = 14 ∨ j = 15 ∨ j = 16 ∨ j = 17 by omega) with rfl | rfl | rfl | rfl | rfl | rfl | rfl | rfl | rfl | rfl | rfl | rfl | rfl | rfl | rfl | rfl | rfl | rfl <;> rfl) (Nat.le_of_ble_eq_true rfl) (Nat.le_of_ble_eq_true rfl) dX5_init_5 (fun q1 H2 hP hD hS => ?_)
  have hP : va_P (dC, dI) vwCl ([(h0, .inr (5, [.null, .null, .null, .null, .null]))] ++ [(q1, .inr (4, [.null, .null, .null, .int 0, .int 0, .int 0, .null, .null, .null, .null, .null, .int 0, .int 0, .int 0, .int 0, .null, .int 0, .null]))]) H2 := hP
  have hD : va_D (va_A [(h0, .inr (5, [.null, .null, .null, .null, .null]))] s.heap.size) ([(h0, .inr (5, [.null, .null, .null, .null, .null]))] ++ [(q1, .inr (4, [.null, .null, .null, .int 0, .int 0, .int 0, .null, .null, .null, .null, .null, .int 0, .int 0, .int 0, .int 0, .null, .int 0, .null]))]) := hD
  refine W.widen (k := 1) (n := 18) (Nat.le_of_ble_eq_true rfl) (Nat.le_of_ble_eq_true rfl) ?_
  refine lv_dup hx hb dX5_init_8 rfl ?_
  have hPc : va_P (dC, dI) vwCl [(q1, .inr (4, [.null, .null, .null, .int 0, .int 0, .int 0, .null, .null, .null, .null, .null, .int 0, .int 0, .int 0, .int 0, .null, .int 0, .null]))] H2 := hP.sub [1] rfl
  have hDc : va_D (va_A [(h0, .inr (5, [.null, .null, .null, .null, .null]))] s.heap.size) [(q1, .inr (4, [.null, .null, .null, .int 0, .int 0, .int 0, .null, .null, .null, .null, .null, .int 0, .int 0, .int 0, .int 0, .null, .int 0, .null]))] := hD.sub [1] (by decide) rfl
  have hFc : ∀ q : Nat, va_A [(q1, .inr (4, [.null, .null, .null, .int 0, .int 0, .int 0, .null, .null, .null, .null, .null, .int 0, .int 0, .int 0, .int 0, .null, .int 0, .null]))] H2.size q → va_A [(h0, .inr (5, [.null, .null, .null, .null, .null]))] s.heap.size q := va_free hD hS hA [1] rfl
  refine va_callv (va_runI (As := []) (rest := [.ref q1, .ref h0]) ⟨hx, hb, hml, hown, hts⟩ (c_X4_init l dC dI cI cC cS q1  H2.size) (cwI 0 hts gX5_init_X4_init rfl rfl rfl (hts (.initialized RX4) (List.mem_of_getElem? (i := 6) rfl)) (hts (.methodLink RX5 11 yX4_init) (List.mem_of_getElem? (i := 21) rfl)) (hts (.instanceMethod yX4_init) (List.mem_of_getElem? (i := 22) rfl)) rfl (by decide +kernel) ⟨(Nat.le_of_ble_eq_true rfl), (Nat.le_of_ble_eq_true rfl)⟩) (pN hK hPc hDc hN hO) rfl rfl hl.1 rfl (lv_room (Nat.le_of_ble_eq_true rfl)) dX5_init_9 ⟨(Nat.le_of_ble_eq_true rfl), (Nat.le_of_ble_eq_true rfl)⟩) hS (fun q _ h => hFc q h) hFc (fun u3 t_u3 H4 locs ht hvm hw hB hz1 hk1 hS => ?_)
  obtain ⟨hP1, hD1⟩ := hB
  rw [ht] at hP1
  subst hw
  obtain ⟨hP, hD⟩ := va_join (wc := [((u3 0), .inr (4, [.null, .null, .null, .int 0, .int 0, .int 0, .null, .null, .null, .null, .null, .int 0, .int 0, .int 0, .int 0, .null, .int 0, .null]))]) (wr := [(h0, .inr (5, [.null, .null, .null, .null, .null]))]) (w1 := cSt u3 cI S0) hP hD [1] [0] rfl rfl (by decide) (by decide) hk1 hFc hP1 hD1
  have hP : va_P (dC, dI) vwCl ([(h0, .inr (5, [.null, .null, .null, .null, .null]))] ++ cSt u3 cI S0) H4 := hP
  have hD : va_D (va_A [(h0, .inr (5, [.null, .null, .null, .null, .null]))] s.heap.size) ([(h0, .inr (5, [.null, .null, .null, .null, .null]))] ++ cSt u3 cI S0) := hD
  refine W.widen (k := 12) (n := 253) (Nat.le_of_ble_eq_true rfl) (Nat.le_of_ble_eq_true rfl) ?_
  refine va_putF (D := (dC, dI)) (ci := 5) (v := .ref (u3 0)) (ty := .object "FeedDesk$State") (C := RX5) (T := TX5) (N := 5) hx hb hts hin5 tyX5 tyX5_ok nmX5 hown hK hP hD hS 0 rfl rfl 0 (by decide) (hts (.fieldLink RX5 12 "FeedDesk" "now" "LFeedDesk$State;") (List.mem_of_getElem? (i := 7) rfl)) (fun _ h9 => h9) rfl hin rfl (by decide +kernel) rfl rfl (Nat.le_of_ble_eq_true rfl) dX5_init_12 (fun H5 locs hP hD hS => ?_)
  have hP : va_P (dC, dI) vwCl ([(h0, .inr (5, [.ref (u3 0), .null, .null, .null, .null]))] ++ cSt u3 cI S0) H5 := hP
  have hD : va_D (va_A [(h0, .inr (5, [.null, .null, .null, .null, .null]))] s.heap.size) ([(h0, .inr (5, [.ref (u3 0), .null, .null, .null, .null]))] ++ cSt u3 cI S0) := hD
  refine lv_aload_n hx hb dX5_init_15 rfl (lv_at hl 0 rfl) ?_
  refine va_new (ci := 4) (fs := [.null, .null, .null, .int 0, .int 0, .int 0, .null, .null, .null, .null, .null, .int 0, .int 0, .int 0, .int 0, .null, .int 0, .null]) (C := RX4) (T := TX4) (N := 18) hx hb hts hin4 tyX4 tyX4_ok hown (hts (.classLink RX5 9 RX4) (List.mem_of_getElem? (i := 4) rfl)) (hts (.instantiable RX4 18) (List.mem_of_getElem? (i := 5) rfl)) (hts (.initialized RX4) (List.mem_of_getElem? (i := 6) rfl)) hK hP hD hS hA rfl (fun j hj => by rcases (show j = 0 ∨ j = 1 ∨ j = 2 ∨ j = 3 ∨ j = 4 ∨ j = 5 ∨ j = 6 ∨ j = 7 ∨ j = 8 ∨ j = 9 ∨ j = 10 ∨ j = 11 ∨ j = 12 ∨ j = 13 ∨ j = 14 ∨ j = 15 ∨ j = 16 ∨ j = 17 by omega) with rfl | rfl | rfl | rfl | rfl | rfl | rfl | rfl | rfl | rfl | rfl | rfl | rfl | rfl | rfl | rfl | rfl | rfl <;> rfl) (Nat.le_of_ble_eq_true rfl) (Nat.le_of_ble_eq_true rfl) dX5_init_16 (fun q6 H7 hP hD hS => ?_)
  have hP : va_P (dC, dI) vwCl ([(h0, .inr (5, [.ref (u3 0), .null, .null, .null, .null]))] ++ cSt u3 cI S0 ++ [(q6, .inr (4, [.null, .null, .null, .int 0, .int 0, .int 0, .null, .null, .null, .null, .null, .int 0, .int 0, .int 0, .int 0, .null, .int 0, .null]))]) H7 := hP
  have hD : va_D (va_A [(h0, .inr (5, [.null, .null, .null, .null, .null]))] s.heap.size) ([(h0, .inr (5, [.ref (u3 0), .null, .null, .null, .null]))] ++ cSt u3 cI S0 ++ [(q6, .inr (4, [.null, .null, .null, .int 0, .int 0, .int 0, .null, .null, .null, .null, .null, .int 0, .int 0, .int 0, .int 0, .null, .int 0, .null]))]) := hD
  refine W.widen (k := 13) (n := 271) (Nat.le_of_ble_eq_true rfl) (Nat.le_of_ble_eq_true rfl) ?_
  refine lv_dup hx hb dX5_init_19 rfl ?_
  have hPc : va_P (dC, dI) vwCl [(q6, .inr (4, [.null, .null, .null, .int 0, .int 0, .int 0, .null, .null, .null, .null, .null, .int 0, .int 0, .int 0, .int 0, .null, .int 0, .null]))] H7 := hP.sub [13] rfl
  have hDc : va_D (va_A [(h0, .inr (5, [.null, .null, .null, .null, .null]))] s.heap.size) [(q6, .inr (4, [.null, .null, .null, .int 0, .int 0, .int 0, .null, .null, .null, .null, .null, .int 0, .int 0, .int 0, .int 0, .null, .int 0, .null]))] := hD.sub [13] (by decide) rfl
  have hFc : ∀ q : Nat, va_A [(q6, .inr (4, [.null, .null, .null, .int 0, .int 0, .int 0, .null, .null, .null, .null, .null, .int 0, .int 0, .int 0, .int 0, .null, .int 0, .null]))] H7.size q → va_A [(h0, .inr (5, [.null, .null, .null, .null, .null]))] s.heap.size q := va_free hD hS hA [13] rfl
  refine va_callv (va_runI (As := []) (rest := [.ref q6, .ref h0]) ⟨hx, hb, hml, hown, hts⟩ (c_X4_init l dC dI cI cC cS q6  H7.size) (cwI 0 hts gX5_init_X4_init rfl rfl rfl (hts (.initialized RX4) (List.mem_of_getElem? (i := 6) rfl)) (hts (.methodLink RX5 11 yX4_init) (List.mem_of_getElem? (i := 21) rfl)) (hts (.instanceMethod yX4_init) (List.mem_of_getElem? (i := 22) rfl)) rfl (by decide +kernel) ⟨(Nat.le_of_ble_eq_true rfl), (Nat.le_of_ble_eq_true rfl)⟩) (pN hK hPc hDc hN hO) rfl rfl hl.1 rfl (lv_room (Nat.le_of_ble_eq_true rfl)) dX5_init_20 ⟨(Nat.le_of_ble_eq_true rfl), (Nat.le_of_ble_eq_true rfl)⟩) hS (fun q _ h => hFc q h) hFc (fun u8 t_u8 H9 locs ht hvm hw hB hz1 hk1 hS => ?_)
  obtain ⟨hP1, hD1⟩ := hB
  rw [ht] at hP1
  subst hw
  obtain ⟨hP, hD⟩ := va_join (wc := [((u8 0), .inr (4, [.null, .null, .null, .int 0, .int 0, .int 0, .null, .null, .null, .null, .null, .int 0, .int 0, .int 0, .int 0, .null, .int 0, .null]))]) (wr := [(h0, .inr (5, [.ref (u3 0), .null, .null, .null, .null]))] ++ cSt u3 cI S0) (w1 := cSt u8 cI S0) hP hD [13] [0, 1, 2, 3, 4, 5, 6, 7, 8, 9, 10, 11, 12] rfl rfl (by decide) (by decide) hk1 hFc hP1 hD1
  have hP : va_P (dC, dI) vwCl ([(h0, .inr (5, [.ref (u3 0), .null, .null, .null, .null]))] ++ cSt u3 cI S0 ++ cSt u8 cI S0) H9 := hP
  have hD : va_D (va_A [(h0, .inr (5, [.null, .null, .null, .null, .null]))] s.heap.size) ([(h0, .inr (5, [.ref (u3 0), .null, .null, .null, .null]))] ++ cSt u3 cI S0 ++ cSt u8 cI S0) := hD
  refine W.widen (k := 24) (n := 506) (Nat.le_of_ble_eq_true rfl) (Nat.le_of_ble_eq_true rfl) ?_
  refine va_putF (D := (dC, dI)) (ci := 5) (v := .ref (u8 0)) (ty := .object "FeedDesk$State") (C := RX5) (T := TX5) (N := 5) hx hb hts hin5 tyX5 tyX5_ok nmX5 hown hK hP hD hS 0 rfl rfl 1 (by decide) (hts (.fieldLink RX5 16 "FeedDesk" "trial" "LFeedDesk$State;") (List.mem_of_getElem? (i := 8) rfl)) (fun _ h9 => h9) rfl hin rfl (by decide +kernel) rfl rfl (Nat.le_of_ble_eq_true rfl) dX5_init_23 (fun H10 locs hP hD hS => ?_)
  have hP : va_P (dC, dI) vwCl ([(h0, .inr (5, [.ref (u3 0), .ref (u8 0), .null, .null, .null]))] ++ cSt u3 cI S0 ++ cSt u8 cI S0) H10 := hP
  have hD : va_D (va_A [(h0, .inr (5, [.null, .null, .null, .null, .null]))] s.heap.size) ([(h0, .inr (5, [.ref (u3 0), .ref (u8 0), .null, .null, .null]))] ++ cSt u3 cI S0 ++ cSt u8 cI S0) := hD
  refine lv_aload_n hx hb dX5_init_26 rfl (lv_at hl 0 rfl) ?_
  refine va_new (ci := 1) (fs := [.null, .int 0, .int 0]) (C := RX1) (T := TX1) (N := 3) hx hb hts hin1 tyX1 tyX1_ok hown (hts (.classLink RX5 19 RX1) (List.mem_of_getElem? (i := 9) rfl)) (hts (.instantiable RX1 3) (List.mem_of_getElem? (i := 10) rfl)) (hts (.initialized RX1) (List.mem_of_getElem? (i := 11) rfl)) hK hP hD hS hA rfl (fun j hj => by rcases (show j = 0 ∨ j = 1 ∨ j = 2 by omega) with rfl | rfl | rfl <;> rfl) (Nat.le_of_ble_eq_true rfl) (Nat.le_of_ble_eq_true rfl) dX5_init_27 (fun q11 H12 hP hD hS => ?_)
  have hP : va_P (dC, dI) vwCl ([(h0, .inr (5, [.ref (u3 0), .ref (u8 0), .null, .null, .null]))] ++ cSt u3 cI S0 ++ cSt u8 cI S0 ++ [(q11, .inr (1, [.null, .int 0, .int 0]))]) H12 := hP
  have hD : va_D (va_A [(h0, .inr (5, [.null, .null, .null, .null, .null]))] s.heap.size) ([(h0, .inr (5, [.ref (u3 0), .ref (u8 0), .null, .null, .null]))] ++ cSt u3 cI S0 ++ cSt u8 cI S0 ++ [(q11, .inr (1, [.null, .int 0, .int 0]))]) := hD
  refine W.widen (k := 25) (n := 509) (Nat.le_of_ble_eq_true rfl) (Nat.le_of_ble_eq_true rfl) ?_
  refine lv_dup hx hb dX5_init_30 rfl ?_
  have hPc : va_P (dC, dI) vwCl [(q11, .inr (1, [.null, .int 0, .int 0]))] H12 := hP.sub [25] rfl
  have hDc : va_D (va_A [(h0, .inr (5, [.null, .null, .null, .null, .null]))] s.heap.size) [(q11, .inr (1, [.null, .int 0, .int 0]))] := hD.sub [25] (by decide) rfl
  have hFc : ∀ q : Nat, va_A [(q11, .inr (1, [.null, .int 0, .int 0]))] H12.size q → va_A [(h0, .inr (5, [.null, .null, .null, .null, .null]))] s.heap.size q := va_free hD hS hA [25] rfl
  refine va_callv (va_runI (As := []) (rest := [.ref q11, .ref h0]) ⟨hx, hb, hml, hown, hts⟩ (c_X1_init l dC dI cI cC cS q11  H12.size) (cwI 0 hts gX5_init_X1_init rfl rfl rfl (hts (.initialized RX1) (List.mem_of_getElem? (i := 11) rfl)) (hts (.methodLink RX5 21 yX1_init) (List.mem_of_getElem? (i := 43) rfl)) (hts (.instanceMethod yX1_init) (List.mem_of_getElem? (i := 44) rfl)) rfl (by decide +kernel) ⟨(Nat.le_of_ble_eq_true rfl), (Nat.le_of_ble_eq_true rfl)⟩) (pN hK hPc hDc hN hO) rfl rfl hl.1 rfl (lv_room (Nat.le_of_ble_eq_true rfl)) dX5_init_31 ⟨(Nat.le_of_ble_eq_true rfl), (Nat.le_of_ble_eq_true rfl)⟩) hS (fun q _ h => hFc q h) hFc (fun u13 t_u13 H14 locs ht hvm hw hB hz1 hk1 hS => ?_)
  obtain ⟨hP1, hD1⟩ := hB
  rw [ht] at hP1
  subst hw
  obtain ⟨hP, hD⟩ := va_join (wc := [((u13 0), .inr (1, [.null, .int 0, .int 0]))]) (wr := [(h0, .inr (5, [.ref (u3 0), .ref (u8 0), .null, .null, .null]))] ++ cSt u3 cI S0 ++ cSt u8 cI S0) (w1 := cHs u13 cI cS) hP hD [25] [0, 1, 2, 3, 4, 5, 6, 7, 8, 9, 10, 11, 12, 13, 14, 15, 16, 17, 18, 19, 20, 21, 22, 23, 24] rfl rfl (by decide) (by decide) hk1 hFc hP1 hD1
  have hP : va_P (dC, dI) vwCl ([(h0, .inr (5, [.ref (u3 0), .ref (u8 0), .null, .null, .null]))] ++ cSt u3 cI S0 ++ cSt u8 cI S0 ++ cHs u13 cI cS) H14 := hP
  have hD : va_D (va_A [(h0, .inr (5, [.null, .null, .null, .null, .null]))] s.heap.size) ([(h0, .inr (5, [.ref (u3 0), .ref (u8 0), .null, .null, .null]))] ++ cSt u3 cI S0 ++ cSt u8 cI S0 ++ cHs u13 cI cS) := hD
  refine W.widen (k := 86) (n := 1779) (Nat.le_of_ble_eq_true rfl) (Nat.le_of_ble_eq_true rfl) ?_
  refine va_putF (D := (dC, dI)) (ci := 5) (v := .ref (u13 0)) (ty := .object "FeedDesk$History") (C := RX5) (T := TX5) (N := 5) hx hb hts hin5 tyX5 tyX5_ok nmX5 hown hK hP hD hS 0 rfl rfl 2 (by decide) (hts (.fieldLink RX5 22 "FeedDesk" "history" "LFeedDesk$History;") (List.mem_of_getElem? (i := 12) rfl)) (fun _ h9 => h9) rfl hin rfl (by decide +kernel) rfl rfl (Nat.le_of_ble_eq_true rfl) dX5_init_34 (fun H15 locs hP hD hS => ?_)
  have hP : va_P (dC, dI) vwCl ([(h0, .inr (5, [.ref (u3 0), .ref (u8 0), .ref (u13 0), .null, .null]))] ++ cSt u3 cI S0 ++ cSt u8 cI S0 ++ cHs u13 cI cS) H15 := hP
  have hD : va_D (va_A [(h0, .inr (5, [.null, .null, .null, .null, .null]))] s.heap.size) ([(h0, .inr (5, [.ref (u3 0), .ref (u8 0), .ref (u13 0), .null, .null]))] ++ cSt u3 cI S0 ++ cSt u8 cI S0 ++ cHs u13 cI cS) := hD
  refine lv_aload_n hx hb dX5_init_37 rfl (lv_at hl 0 rfl) ?_
  refine va_new (ci := 3) (fs := [.null, .null, .null, .null]) (C := RX3) (T := TX3) (N := 4) hx hb hts hin3 tyX3 tyX3_ok hown (hts (.classLink RX5 26 RX3) (List.mem_of_getElem? (i := 13) rfl)) (hts (.instantiable RX3 4) (List.mem_of_getElem? (i := 14) rfl)) (hts (.initialized RX3) (List.mem_of_getElem? (i := 15) rfl)) hK hP hD hS hA rfl (fun j hj => by rcases (show j = 0 ∨ j = 1 ∨ j = 2 ∨ j = 3 by omega) with rfl | rfl | rfl | rfl <;> rfl) (Nat.le_of_ble_eq_true rfl) (Nat.le_of_ble_eq_true rfl) dX5_init_38 (fun q16 H17 hP hD hS => ?_)
  have hP : va_P (dC, dI) vwCl ([(h0, .inr (5, [.ref (u3 0), .ref (u8 0), .ref (u13 0), .null, .null]))] ++ cSt u3 cI S0 ++ cSt u8 cI S0 ++ cHs u13 cI cS ++ [(q16, .inr (3, [.null, .null, .null, .null]))]) H17 := hP
  have hD : va_D (va_A [(h0, .inr (5, [.null, .null, .null, .null, .null]))] s.heap.size) ([(h0, .inr (5, [.ref (u3 0), .ref (u8 0), .ref (u13 0), .null, .null]))] ++ cSt u3 cI S0 ++ cSt u8 cI S0 ++ cHs u13 cI cS ++ [(q16, .inr (3, [.null, .null, .null, .null]))]) := hD
  refine W.widen (k := 87) (n := 1783) (Nat.le_of_ble_eq_true rfl) (Nat.le_of_ble_eq_true rfl) ?_
  refine lv_dup hx hb dX5_init_41 rfl ?_
  refine lv_aload_n hx hb dX5_init_42 rfl (lv_at hl 0 rfl) ?_
  refine va_get (D := (dC, dI)) (ci := 5) (v := .ref (u3 0)) (C := RX5) (T := TX5) (N := 5) hx hb hts hin5 hown hK hP 0 rfl rfl 0 (by decide) (hts (.fieldLink RX5 12 "FeedDesk" "now" "LFeedDesk$State;") (List.mem_of_getElem? (i := 7) rfl)) (fun _ h9 => h9) rfl dX5_init_43 ?_
  have hPc : va_P (dC, dI) vwCl [(q16, .inr (3, [.null, .null, .null, .null]))] H17 := hP.sub [87] rfl
  have hDc : va_D (va_A [(h0, .inr (5, [.null, .null, .null, .null, .null]))] s.heap.size) [(q16, .inr (3, [.null, .null, .null, .null]))] := hD.sub [87] (by decide) rfl
  have hFc : ∀ q : Nat, va_A [(q16, .inr (3, [.null, .null, .null, .null]))] H17.size q → va_A [(h0, .inr (5, [.null, .null, .null, .null, .null]))] s.heap.size q := va_free hD hS hA [87] rfl
  refine va_callv (va_runI (As := [.ref (u3 0)]) (rest := [.ref q16, .ref h0]) ⟨hx, hb, hml, hown, hts⟩ (c_X3_init l dC dI cI cC cS q16 (u3 0) H17.size) (cwI 1 hts gX5_init_X3_init rfl rfl rfl (hts (.initialized RX3) (List.mem_of_getElem? (i := 15) rfl)) (hts (.methodLink RX5 28 yX3_init) (List.mem_of_getElem? (i := 50) rfl)) (hts (.instanceMethod yX3_init) (List.mem_of_getElem? (i := 51) rfl)) rfl (by decide +kernel) ⟨(Nat.le_of_ble_eq_true rfl), (Nat.le_of_ble_eq_true rfl)⟩) (pN hK hPc hDc hN hO) rfl rfl hl.1 rfl (lv_room (Nat.le_of_ble_eq_true rfl)) dX5_init_46 ⟨(Nat.le_of_ble_eq_true rfl), (Nat.le_of_ble_eq_true rfl)⟩) hS (fun q _ h => hFc q h) hFc (fun u18 t_u18 H19 locs ht hvm hw hB hz1 hk1 hS => ?_)
  obtain ⟨hP1, hD1⟩ := hB
  rw [ht] at hP1
  subst hw
  obtain ⟨hP, hD⟩ := va_join (wc := [((u18 0), .inr (3, [.null, .null, .null, .null]))]) (wr := [(h0, .inr (5, [.ref (u3 0), .ref (u8 0), .ref (u13 0), .null, .null]))] ++ cSt u3 cI S0 ++ cSt u8 cI S0 ++ cHs u13 cI cS) (w1 := cRt u18 (fun _ => (u3 0)) cI Z0) hP hD [87] [0, 1, 2, 3, 4, 5, 6, 7, 8, 9, 10, 11, 12, 13, 14, 15, 16, 17, 18, 19, 20, 21, 22, 23, 24, 25, 26, 27, 28, 29, 30, 31, 32, 33, 34, 35, 36, 37, 38, 39, 40, 41, 42, 43, 44, 45, 46, 47, 48, 49, 50, 51, 52, 53, 54, 55, 56, 57, 58, 59, 60, 61, 62, 63, 64, 65, 66, 67, 68, 69, 70, 71, 72, 73, 74, 75, 76, 77, 78, 79, 80, 81, 82, 83, 84, 85, 86] rfl rfl (by decide) (by decide) hk1 hFc hP1 hD1
  have hP : va_P (dC, dI) vwCl ([(h0, .inr (5, [.ref (u3 0), .ref (u8 0), .ref (u13 0), .null, .null]))] ++ cSt u3 cI S0 ++ cSt u8 cI S0 ++ cHs u13 cI cS ++ cRt u18 (fun _ => (u3 0)) cI Z0) H19 := hP
  have hD : va_D (va_A [(h0, .inr (5, [.null, .null, .null, .null, .null]))] s.heap.size) ([(h0, .inr (5, [.ref (u3 0), .ref (u8 0), .ref (u13 0), .null, .null]))] ++ cSt u3 cI S0 ++ cSt u8 cI S0 ++ cHs u13 cI cS ++ cRt u18 (fun _ => (u3 0)) cI Z0) := hD
  refine W.widen (k := 90) (n := 1811) (Nat.le_of_ble_eq_true rfl) (Nat.le_of_ble_eq_true rfl) ?_
  refine va_putF (D := (dC, dI)) (ci := 5) (v := .ref (u18 0)) (ty := .object "FeedDesk$Routes") (C := RX5) (T := TX5) (N := 5) hx hb hts hin5 tyX5 tyX5_ok nmX5 hown hK hP hD hS 0 rfl rfl 3 (by decide) (hts (.fieldLink RX5 31 "FeedDesk" "routes" "LFeedDesk$Routes;") (List.mem_of_getElem? (i := 16) rfl)) (fun _ h9 => h9) rfl hin rfl (by decide +kernel) rfl rfl (Nat.le_of_ble_eq_true rfl) dX5_init_49 (fun H20 locs hP hD hS => ?_)
  have hP : va_P (dC, dI) vwCl ([(h0, .inr (5, [.ref (u3 0), .ref (u8 0), .ref (u13 0), .ref (u18 0), .null]))] ++ cSt u3 cI S0 ++ cSt u8 cI S0 ++ cHs u13 cI cS ++ cRt u18 (fun _ => (u3 0)) cI Z0) H20 := hP
  have hD : va_D (va_A [(h0, .inr (5, [.null, .null, .null, .null, .null]))] s.heap.size) ([(h0, .inr (5, [.ref (u3 0), .ref (u8 0), .ref (u13 0), .ref (u18 0), .null]))] ++ cSt u3 cI S0 ++ cSt u8 cI S0 ++ cHs u13 cI cS ++ cRt u18 (fun _ => (u3 0)) cI Z0) := hD
  refine lv_aload_n hx hb dX5_init_52 rfl (lv_at hl 0 rfl) ?_
  refine va_new (ci := 2) (fs := [.null, .int 0, .int 0]) (C := RX2) (T := TX2) (N := 3) hx hb hts hin2 tyX2 tyX2_ok hown (hts (.classLink RX5 35 RX2) (List.mem_of_getElem? (i := 17) rfl)) (hts (.instantiable RX2 3) (List.mem_of_getElem? (i := 18) rfl)) (hts (.initialized RX2) (List.mem_of_getElem? (i := 19) rfl)) hK hP hD hS hA rfl (fun j hj => by rcases (show j = 0 ∨ j = 1 ∨ j = 2 by omega) with rfl | rfl | rfl <;> rfl) (Nat.le_of_ble_eq_true rfl) (Nat.le_of_ble_eq_true rfl) dX5_init_53 (fun q21 H22 hP hD hS => ?_)
  have hP : va_P (dC, dI) vwCl ([(h0, .inr (5, [.ref (u3 0), .ref (u8 0), .ref (u13 0), .ref (u18 0), .null]))] ++ cSt u3 cI S0 ++ cSt u8 cI S0 ++ cHs u13 cI cS ++ cRt u18 (fun _ => (u3 0)) cI Z0 ++ [(q21, .inr (2, [.null, .int 0, .int 0]))]) H22 := hP
  have hD : va_D (va_A [(h0, .inr (5, [.null, .null, .null, .null, .null]))] s.heap.size) ([(h0, .inr (5, [.ref (u3 0), .ref (u8 0), .ref (u13 0), .ref (u18 0), .null]))] ++ cSt u3 cI S0 ++ cSt u8 cI S0 ++ cHs u13 cI cS ++ cRt u18 (fun _ => (u3 0)) cI Z0 ++ [(q21, .inr (2, [.null, .int 0, .int 0]))]) := hD
  refine W.widen (k := 91) (n := 1814) (Nat.le_of_ble_eq_true rfl) (Nat.le_of_ble_eq_true rfl) ?_
  refine lv_dup hx hb dX5_init_56 rfl ?_
  have hPc : va_P (dC, dI) vwCl [(q21, .inr (2, [.null, .int 0, .int 0]))] H22 := hP.sub [91] rfl
  have hDc : va_D (va_A [(h0, .inr (5, [.null, .null, .null, .null, .null]))] s.heap.size) [(q21, .inr (2, [.null, .int 0, .int 0]))] := hD.sub [91] (by decide) rfl
  have hFc : ∀ q : Nat, va_A [(q21, .inr (2, [.null, .int 0, .int 0]))] H22.size q → va_A [(h0, .inr (5, [.null, .null, .null, .null, .null]))] s.heap.size q := va_free hD hS hA [91] rfl
  refine va_callv (va_runIN (As := []) (rest := [.ref q21, .ref h0]) ⟨hx, hb, hml, hown, hts⟩ (c_X2_init l dC dI cI cC cS q21  H22.size) ⟨va_cnB 0 hts gX5_init_X2_init_n37 rfl rfl rfl (hN.at 1 rfl) (hts (.initialized RX2) (List.mem_of_getElem? (i := 19) rfl)) (by decide +kernel) ⟨(Nat.le_of_ble_eq_true rfl), (Nat.le_of_ble_eq_true rfl)⟩, rfl, (hts (.instanceMethod yX2_init) (List.mem_of_getElem? (i := 58) rfl))⟩ (pN hK hPc hDc hN hO) rfl rfl hl.1 rfl (lv_room (Nat.le_of_ble_eq_true rfl)) dX5_init_57 ⟨(Nat.le_of_ble_eq_true rfl), (Nat.le_of_ble_eq_true rfl)⟩) hS (fun q _ h => hFc q h) hFc (fun u23 t_u23 H24 locs ht hvm hw hB hz1 hk1 hS => ?_)
  obtain ⟨hP1, hD1⟩ := hB
  rw [ht] at hP1
  subst hw
  obtain ⟨hP, hD⟩ := va_join (wc := [((u23 0), .inr (2, [.null, .int 0, .int 0]))]) (wr := [(h0, .inr (5, [.ref (u3 0), .ref (u8 0), .ref (u13 0), .ref (u18 0), .null]))] ++ cSt u3 cI S0 ++ cSt u8 cI S0 ++ cHs u13 cI cS ++ cRt u18 (fun _ => (u3 0)) cI Z0) (w1 := cPt u23 cC Z0) hP hD [91] [0, 1, 2, 3, 4, 5, 6, 7, 8, 9, 10, 11, 12, 13, 14, 15, 16, 17, 18, 19, 20, 21, 22, 23, 24, 25, 26, 27, 28, 29, 30, 31, 32, 33, 34, 35, 36, 37, 38, 39, 40, 41, 42, 43, 44, 45, 46, 47, 48, 49, 50, 51, 52, 53, 54, 55, 56, 57, 58, 59, 60, 61, 62, 63, 64, 65, 66, 67, 68, 69, 70, 71, 72, 73, 74, 75, 76, 77, 78, 79, 80, 81, 82, 83, 84, 85, 86, 87, 88, 89, 90] rfl rfl (by decide) (by decide) hk1 hFc hP1 hD1
  have hP : va_P (dC, dI) vwCl ([(h0, .inr (5, [.ref (u3 0), .ref (u8 0), .ref (u13 0), .ref (u18 0), .null]))] ++ cSt u3 cI S0 ++ cSt u8 cI S0 ++ cHs u13 cI cS ++ cRt u18 (fun _ => (u3 0)) cI Z0 ++ cPt u23 cC Z0) H24 := hP
  have hD : va_D (va_A [(h0, .inr (5, [.null, .null, .null, .null, .null]))] s.heap.size) ([(h0, .inr (5, [.ref (u3 0), .ref (u8 0), .ref (u13 0), .ref (u18 0), .null]))] ++ cSt u3 cI S0 ++ cSt u8 cI S0 ++ cHs u13 cI cS ++ cRt u18 (fun _ => (u3 0)) cI Z0 ++ cPt u23 cC Z0) := hD
  refine W.widen (k := 92) (n := 1954) (Nat.le_of_ble_eq_true rfl) (Nat.le_of_ble_eq_true rfl) ?_
  refine va_putF (D := (dC, dI)) (ci := 5) (v := .ref (u23 0)) (ty := .object "FeedDesk$Patch") (C := RX5) (T := TX5) (N := 5) hx hb hts hin5 tyX5 tyX5_ok nmX5 hown hK hP hD hS 0 rfl rfl 4 (by decide) (hts (.fieldLink RX5 38 "FeedDesk" "patch" "LFeedDesk$Patch;") (List.mem_of_getElem? (i := 20) rfl)) (fun _ h9 => h9) rfl hin rfl (by decide +kernel) rfl rfl (Nat.le_of_ble_eq_true rfl) dX5_init_60 (fun H25 locs hP hD hS => ?_)
  have hP : va_P (dC, dI) vwCl ([(h0, .inr (5, [.ref (u3 0), .ref (u8 0), .ref (u13 0), .ref (u18 0), .ref (u23 0)]))] ++ cSt u3 cI S0 ++ cSt u8 cI S0 ++ cHs u13 cI cS ++ cRt u18 (fun _ => (u3 0)) cI Z0 ++ cPt u23 cC Z0) H25 := hP
  have hD : va_D (va_A [(h0, .inr (5, [.null, .null, .null, .null, .null]))] s.heap.size) ([(h0, .inr (5, [.ref (u3 0), .ref (u8 0), .ref (u13 0), .ref (u18 0), .ref (u23 0)]))] ++ cSt u3 cI S0 ++ cSt u8 cI S0 ++ cHs u13 cI cS ++ cRt u18 (fun _ => (u3 0)) cI Z0 ++ cPt u23 cC Z0) := hD
  obtain ⟨hP, hD⟩ := setq_same (q1 := 26) (ws := [(h0, .inr (5, [.ref (u3 0), .ref (u8 0), .ref (u13 0), .ref (u18 0), .ref (u23 0)]))] ++ cSt u3 cI S0 ++ cSt u8 cI S0 ++ cHs u13 cI cS ++ cRt u18 (fun _ => (u3 0)) cI Z0 ++ cPt u23 cC Z0) (a := u13 1) (cA := cS) (n := 5) (f := fun i => some (u13 (2 + 12 * i))) (g := kf (jn 1 (fun _ => h0) (jn 12 u3 (jn 12 u8 (jn 62 u13 (jn 4 u18 u23)))))) (fun q hq => by rcases (show q = 0 ∨ q = 1 ∨ q = 2 ∨ q = 3 ∨ q = 4 by omega) with rfl | rfl | rfl | rfl | rfl <;> rfl) hP hD
  have hP9 : va_P (dC, dI) vwCl (cDk (jn 1 (fun _ => h0) (jn 12 u3 (jn 12 u8 (jn 62 u13 (jn 4 u18 u23))))) cI cC cS G0) H25 := hP.sub [0, 1, 2, 3, 4, 5, 6, 7, 8, 9, 10, 11, 12, 13, 14, 15, 16, 17, 18, 19, 20, 21, 22, 23, 24, 25, 26, 27, 28, 29, 30, 31, 32, 33, 34, 35, 36, 37, 38, 39, 40, 41, 42, 43, 44, 45, 46, 47, 48, 49, 50, 51, 52, 53, 54, 55, 56, 57, 58, 59, 60, 61, 62, 63, 64, 65, 66, 67, 68, 69, 70, 71, 72, 73, 74, 75, 76, 77, 78, 79, 80, 81, 82, 83, 84, 85, 86, 87, 88, 89, 90, 91, 92] rfl
  have hD9 : va_D (va_A [(h0, .inr (5, [.null, .null, .null, .null, .null]))] s.heap.size) (cDk (jn 1 (fun _ => h0) (jn 12 u3 (jn 12 u8 (jn 62 u13 (jn 4 u18 u23))))) cI cC cS G0) := hD.sub [0, 1, 2, 3, 4, 5, 6, 7, 8, 9, 10, 11, 12, 13, 14, 15, 16, 17, 18, 19, 20, 21, 22, 23, 24, 25, 26, 27, 28, 29, 30, 31, 32, 33, 34, 35, 36, 37, 38, 39, 40, 41, 42, 43, 44, 45, 46, 47, 48, 49, 50, 51, 52, 53, 54, 55, 56, 57, 58, 59, 60, 61, 62, 63, 64, 65, 66, 67, 68, 69, 70, 71, 72, 73, 74, 75, 76, 77, 78, 79, 80, 81, 82, 83, 84, 85, 86, 87, 88, 89, 90, 91, 92] (by decide) rfl
  exact W.vret hx hb hr (fun t ht hWw => ⟨⟨jn 1 (fun _ => h0) (jn 12 u3 (jn 12 u8 (jn 62 u13 (jn 4 u18 u23)))), rfl, rfl, by rw [ht]; exact hP9, hD9⟩, hS.F ht⟩) hS.2.2 dX5_init_63
