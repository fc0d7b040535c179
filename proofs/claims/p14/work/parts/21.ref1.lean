abbrev rm_X6_in : Room := { frames := 0, cells := 0, slots := 0, locals := 0 }
def f_X6_in  (p1 : Int32) (p2 : Int32) (p3 : Int32) : Int32 := (if p1 < p2 then 0 else (if p3 < p1 then 0 else 1))
set_option maxHeartbeats 4000000 in
set_option maxRecDepth 100000 in
theorem c_X6_in (l : Launch) (dC : Nat → ClassId) (dI : Nat → Nat → Nat) (cI cC cS : ClassId)   (sz : Nat) (p1 : Int32) (p2 : Int32) (p3 : Int32)  : Met l yX6_in wsX6_in rm_X6_in (PcG (dC, dI) (tyL cI cC cS) ([]) sz [.int p1, .int p2, .int p3]) (va_Qi (fun (r : Int32) (_ : Unit) => r = f_X6_in p1 p2 p3 ∧ (r = 0 ∨ r = 1)) (fun _ _ => True) (va_A [] sz)) 0 0 (va_A [] sz) := by
  refine Met.ofW (cc := cX6_in) (maxL := 3) (ret := (some .boolean)) (by decide) rfl ?_
  intro p e s m args below meth c s₁ B hml hv
  obtain ⟨rfl, hsz, hP, hK, hD0, hN⟩ := hv
  have hx := B.exec
  have hb := B.bytes
  have hr := B.returns
  have hts := atoms_spec (ws := wsX6_in) B.pre
  have hown : s.vm.findClass RX6 = some m.cls := findClass_of_methodNamed B.named
  have hlocks := B.notSynchronized
  subst hsz
  have hA : ∀ q : Nat, s.heap.size ≤ q → (va_A [] s.heap.size) q := fun q h => Or.inr h
  have hS : va_S (va_A [] s.heap.size) s.heap s.heap [] := va_S.rf
  have hl := lv_entry [.int p1, .int p2, .int p3] (n := 3) (Nat.le_of_ble_eq_true rfl)
  rw [lg_entry_eq]
  generalize (lg_sl [.int p1, .int p2, .int p3] ++ List.replicate (3 - (lg_sl [.int p1, .int p2, .int p3]).length) Slot.unset).toArray = ls at hl ⊢
  have hl : lv_has ls 3 [(0, .int p1), (1, .int p2), (2, .int p3)] := hl
  obtain ⟨R0, eR⟩ : ∃ z, z = f_X6_in p1 p2 p3 := ⟨_, rfl⟩
  have hR := eR
  rw [f_X6_in] at hR
  refine lv_iload_n hx hb dX6_in_0 rfl (lv_at hl 0 rfl) ?_
  refine lv_iload_n hx hb dX6_in_1 rfl (lv_at hl 1 rfl) ?_
  refine lv_icmp_lt (tgt := 14) hx hb dX6_in_2 (by decide) (fun c1 => ?_) (fun c1 => ?_)
  · rw [if_pos c1] at hR
    refine lv_iconst (v := 0) hx hb dX6_in_14 (by decide) ?_
    exact W.zret (v := 0) hx hb hr rfl (fun t ht hWw => ⟨⟨0, (), rfl, ⟨hR.symm.trans eR, (Or.inl rfl)⟩, trivial⟩, hS.F ht⟩) hS.2.2 dX6_in_15
  · rw [if_neg c1] at hR
    refine lv_iload_n hx hb dX6_in_5 rfl (lv_at hl 0 rfl) ?_
    refine lv_iload_n hx hb dX6_in_6 rfl (lv_at hl 2 rfl) ?_
    refine lv_icmp_gt (tgt := 14) hx hb dX6_in_7 (by decide) (fun c2 => ?_) (fun c2 => ?_)
    · rw [if_pos c2] at hR
      refine lv_iconst (v := 0) hx hb dX6_in_14 (by decide) ?_
      exact W.zret (v := 0) hx hb hr rfl (fun t ht hWw => ⟨⟨0, (), rfl, ⟨hR.symm.trans eR, (Or.inl rfl)⟩, trivial⟩, hS.F ht⟩) hS.2.2 dX6_in_15
    · rw [if_neg c2] at hR
      refine lv_iconst (v := 1) hx hb dX6_in_10 (by decide) ?_
      refine lv_goto (tgt := 15) hx hb dX6_in_11 (by decide) ?_
      exact W.zret (v := 1) hx hb hr rfl (fun t ht hWw => ⟨⟨1, (), rfl, ⟨hR.symm.trans eR, (Or.inr rfl)⟩, trivial⟩, hS.F ht⟩) hS.2.2 dX6_in_15
abbrev rm_X6_more : Room := { frames := 0, cells := 0, slots := 0, locals := 0 }
def f_X6_more  (p1 : Int32) (p2 : Int32) : Int32 := (if p1 ≤ p2 then p2 else p1)
set_option maxHeartbeats 4000000 in
set_option maxRecDepth 100000 in
theorem c_X6_more (l : Launch) (dC : Nat → ClassId) (dI : Nat → Nat → Nat) (cI cC cS : ClassId)   (sz : Nat) (p1 : Int32) (p2 : Int32)  : Met l yX6_more wsX6_more rm_X6_more (PcG (dC, dI) (tyL cI cC cS) ([]) sz [.int p1, .int p2]) (va_Qi (fun (r : Int32) (_ : Unit) => r = f_X6_more p1 p2) (fun _ _ => True) (va_A [] sz)) 0 0 (va_A [] sz) := by
  refine Met.ofW (cc := cX6_more) (maxL := 2) (ret := (some .int)) (by decide) rfl ?_
  intro p e s m args below meth c s₁ B hml hv
  obtain ⟨rfl, hsz, hP, hK, hD0, hN⟩ := hv
  have hx := B.exec
  have hb := B.bytes
  have hr := B.returns
  have hts := atoms_spec (ws := wsX6_more) B.pre
  have hown : s.vm.findClass RX6 = some m.cls := findClass_of_methodNamed B.named
  have hlocks := B.notSynchronized
  subst hsz
  have hA : ∀ q : Nat, s.heap.size ≤ q → (va_A [] s.heap.size) q := fun q h => Or.inr h
  have hS : va_S (va_A [] s.heap.size) s.heap s.heap [] := va_S.rf
  have hl := lv_entry [.int p1, .int p2] (n := 2) (Nat.le_of_ble_eq_true rfl)
  rw [lg_entry_eq]
  generalize (lg_sl [.int p1, .int p2] ++ List.replicate (2 - (lg_sl [.int p1, .int p2]).length) Slot.unset).toArray = ls at hl ⊢
  have hl : lv_has ls 2 [(0, .int p1), (1, .int p2)] := hl
  obtain ⟨R0, eR⟩ : ∃ z, z = f_X6_more p1 p2 := ⟨_, rfl⟩
  have hR := eR
  rw [f_X6_more] at hR
  refine lv_iload_n hx hb dX6_more_0 rfl (lv_at hl 0 rfl) ?_
  refine lv_iload_n hx hb dX6_more_1 rfl (lv_at hl 1 rfl) ?_
  refine lv_icmp_le (tgt := 9) hx hb dX6_more_2 (by decide) (fun c1 => ?_) (fun c1 => ?_)
  · rw [if_pos c1] at hR
    refine lv_iload_n hx hb dX6_more_9 rfl (lv_at hl 1 rfl) ?_
    exact W.iret (v := p2) hx hb hr (fun t ht hWw => ⟨⟨p2, (), rfl, hR.symm.trans eR, trivial⟩, hS.F ht⟩) hS.2.2 dX6_more_10
  · rw [if_neg c1] at hR
    refine lv_iload_n hx hb dX6_more_5 rfl (lv_at hl 0 rfl) ?_
    refine lv_goto (tgt := 10) hx hb dX6_more_6 (by decide) ?_
    exact W.iret (v := p1) hx hb hr (fun t ht hWw => ⟨⟨p1, (), rfl, hR.symm.trans eR, trivial⟩, hS.F ht⟩) hS.2.2 dX6_more_10
abbrev rm_X6_isChannel : Room := { frames := 1, cells := 0, slots := 0, locals := 22 }
def f_X6_isChannel  (p1 : Int32) : Int32 := f_X6_in p1 0 11
set_option maxHeartbeats 4000000 in
set_option maxRecDepth 100000 in
theorem c_X6_isChannel (l : Launch) (dC : Nat → ClassId) (dI : Nat → Nat → Nat) (cI cC cS : ClassId)   (sz : Nat) (p1 : Int32)  : Met l yX6_isChannel wsX6_isChannel rm_X6_isChannel (PcG (dC, dI) (tyL cI cC cS) ([]) sz [.int p1]) (va_Qi (fun (r : Int32) (_ : Unit) => r = f_X6_isChannel p1 ∧ (r = 0 ∨ r = 1)) (fun _ _ => True) (va_A [] sz)) 0 0 (va_A [] sz) := by
  refine Met.ofW (cc := cX6_isChannel) (maxL := 1) (ret := (some .boolean)) (by decide) rfl ?_
  intro p e s m args below meth c s₁ B hml hv
  obtain ⟨rfl, hsz, hP, hK, hD0, hN⟩ := hv
  have hx := B.exec
  have hb := B.bytes
  have hr := B.returns
  have hts := atoms_spec (ws := wsX6_isChannel) B.pre
  have hown : s.vm.findClass RX6 = some m.cls := findClass_of_methodNamed B.named
  have hlocks := B.notSynchronized
  subst hsz
  have hA : ∀ q : Nat, s.heap.size ≤ q → (va_A [] s.heap.size) q := fun q h => Or.inr h
  have hS : va_S (va_A [] s.heap.size) s.heap s.heap [] := va_S.rf
  have hl := lv_entry [.int p1] (n := 1) (Nat.le_of_ble_eq_true rfl)
  rw [lg_entry_eq]
  generalize (lg_sl [.int p1] ++ List.replicate (1 - (lg_sl [.int p1]).length) Slot.unset).toArray = ls at hl ⊢
  have hl : lv_has ls 1 [(0, .int p1)] := hl
  obtain ⟨R0, eR⟩ : ∃ z, z = f_X6_isChannel p1 := ⟨_, rfl⟩
  have hR := eR
  rw [f_X6_isChannel] at hR
  refine lv_iload_n hx hb dX6_isChannel_0 rfl (lv_at hl 0 rfl) ?_
  refine lv_iconst (v := 0) hx hb dX6_isChannel_1 (by decide) ?_
  refine lv_bipush (v := 11) hx hb dX6_isChannel_2 (by decide) ?_
  have hFc : ∀ q : Nat, va_A [] s.heap.size q → (va_A [] s.heap.size) q := roF hS hA
  refine va_calli (va_runS (As := [.int p1, .int 0, .int 11]) (rest := []) ⟨hx, hb, hml, hown, hts⟩ (c_X6_in l dC dI cI cC cS s.heap.size p1 0 11) (va_cwS 3 hts gX6_isChannel_X6_in rfl rfl rfl (by decide +kernel) ⟨Nat.le_of_ble_eq_true rfl, Nat.le_of_ble_eq_true rfl⟩) (pS hK (va_P_nil) (va_D_nil) hN) rfl rfl hl.1 rfl (lv_room (Nat.le_of_ble_eq_true rfl)) dX6_isChannel_4 ⟨Nat.le_of_ble_eq_true rfl, Nat.le_of_ble_eq_true rfl⟩) hS (fun q _ h => hFc q h) hFc (fun r_1 u_1 t_1 H2 locs ht hvm hw hB hz1 hk1 hS => ?_)
  obtain ⟨hw, hre3⟩ := hw
  subst hw
  have hP := ro_keep hP hk1
  exact W.zret (v := f_X6_in p1 0 11) hx hb hr (nar_bool hre3) (fun t ht hWw => ⟨⟨f_X6_in p1 0 11, (), rfl, ⟨hR.symm.trans eR, hre3⟩, trivial⟩, hS.F ht⟩) hS.2.2 dX6_isChannel_7
abbrev rm_X6_isFour : Room := { frames := 1, cells := 0, slots := 0, locals := 22 }
def f_X6_isFour  (p1 : Int32) : Int32 := f_X6_in p1 0 3
set_option maxHeartbeats 4000000 in
set_option maxRecDepth 100000 in
theorem c_X6_isFour (l : Launch) (dC : Nat → ClassId) (dI : Nat → Nat → Nat) (cI cC cS : ClassId)   (sz : Nat) (p1 : Int32)  : Met l yX6_isFour wsX6_isFour rm_X6_isFour (PcG (dC, dI) (tyL cI cC cS) ([]) sz [.int p1]) (va_Qi (fun (r : Int32) (_ : Unit) => r = f_X6_isFour p1 ∧ (r = 0 ∨ r = 1)) (fun _ _ => True) (va_A [] sz)) 0 0 (va_A [] sz) := by
  refine Met.ofW (cc := cX6_isFour) (maxL := 1) (ret := (some .boolean)) (by decide) rfl ?_
  intro p e s m args below meth c s₁ B hml hv
  obtain ⟨rfl, hsz, hP, hK, hD0, hN⟩ := hv
  have hx := B.exec
  have hb := B.bytes
  have hr := B.returns
  have hts := atoms_spec (ws := wsX6_isFour) B.pre
  have hown : s.vm.findClass RX6 = some m.cls := findClass_of_methodNamed B.named
  have hlocks := B.notSynchronized
  subst hsz
  have hA : ∀ q : Nat, s.heap.size ≤ q → (va_A [] s.heap.size) q := fun q h => Or.inr h
  have hS : va_S (va_A [] s.heap.size) s.heap s.heap [] := va_S.rf
  have hl := lv_entry [.int p1] (n := 1) (Nat.le_of_ble_eq_true rfl)
  rw [lg_entry_eq]
  generalize (lg_sl [.int p1] ++ List.replicate (1 - (lg_sl [.int p1]).length) Slot.unset).toArray = ls at hl ⊢
  have hl : lv_has ls 1 [(0, .int p1)] := hl
  obtain ⟨R0, eR⟩ : ∃ z, z = f_X6_isFour p1 := ⟨_, rfl⟩
  have hR := eR
  rw [f_X6_isFour] at hR
  refine lv_iload_n hx hb dX6_isFour_0 rfl (lv_at hl 0 rfl) ?_
  refine lv_iconst (v := 0) hx hb dX6_isFour_1 (by decide) ?_
  refine lv_iconst (v := 3) hx hb dX6_isFour_2 (by decide) ?_
  have hFc : ∀ q : Nat, va_A [] s.heap.size q → (va_A [] s.heap.size) q := roF hS hA
  refine va_calli (va_runS (As := [.int p1, .int 0, .int 3]) (rest := []) ⟨hx, hb, hml, hown, hts⟩ (c_X6_in l dC dI cI cC cS s.heap.size p1 0 3) (va_cwS 3 hts gX6_isFour_X6_in rfl rfl rfl (by decide +kernel) ⟨Nat.le_of_ble_eq_true rfl, Nat.le_of_ble_eq_true rfl⟩) (pS hK (va_P_nil) (va_D_nil) hN) rfl rfl hl.1 rfl (lv_room (Nat.le_of_ble_eq_true rfl)) dX6_isFour_3 ⟨Nat.le_of_ble_eq_true rfl, Nat.le_of_ble_eq_true rfl⟩) hS (fun q _ h => hFc q h) hFc (fun r_1 u_1 t_1 H2 locs ht hvm hw hB hz1 hk1 hS => ?_)
  obtain ⟨hw, hre3⟩ := hw
  subst hw
  have hP := ro_keep hP hk1
  exact W.zret (v := f_X6_in p1 0 3) hx hb hr (nar_bool hre3) (fun t ht hWw => ⟨⟨f_X6_in p1 0 3, (), rfl, ⟨hR.symm.trans eR, hre3⟩, trivial⟩, hS.F ht⟩) hS.2.2 dX6_isFour_6
abbrev rm_X6_has : Room := { frames := 0, cells := 0, slots := 0, locals := 0 }
def f_X6_has  (p1 : Int32) (p2 : Int32) : Int32 := (if ((p1 >>> (p2 &&& 31)) &&& 1) = 1 then 1 else 0)
set_option maxHeartbeats 4000000 in
set_option maxRecDepth 100000 in
theorem c_X6_has (l : Launch) (dC : Nat → ClassId) (dI : Nat → Nat → Nat) (cI cC cS : ClassId)   (sz : Nat) (p1 : Int32) (p2 : Int32)  : Met l yX6_has wsX6_has rm_X6_has (PcG (dC, dI) (tyL cI cC cS) ([]) sz [.int p1, .int p2]) (va_Qi (fun (r : Int32) (_ : Unit) => r = f_X6_has p1 p2 ∧ (r = 0 ∨ r = 1)) (fun _ _ => True) (va_A [] sz)) 0 0 (va_A [] sz) := by
  refine Met.ofW (cc := cX6_has) (maxL := 2) (ret := (some .boolean)) (by decide) rfl ?_
  intro p e s m args below meth c s₁ B hml hv
  obtain ⟨rfl, hsz, hP, hK, hD0, hN⟩ := hv
  have hx := B.exec
  have hb := B.bytes
  have hr := B.returns
  have hts := atoms_spec (ws := wsX6_has) B.pre
  have hown : s.vm.findClass RX6 = some m.cls := findClass_of_methodNamed B.named
  have hlocks := B.notSynchronized
  subst hsz
  have hA : ∀ q : Nat, s.heap.size ≤ q → (va_A [] s.heap.size) q := fun q h => Or.inr h
  have hS : va_S (va_A [] s.heap.size) s.heap s.heap [] := va_S.rf
  have hl := lv_entry [.int p1, .int p2] (n := 2) (Nat.le_of_ble_eq_true rfl)
  rw [lg_entry_eq]
  generalize (lg_sl [.int p1, .int p2] ++ List.replicate (2 - (lg_sl [.int p1, .int p2]).length) Slot.unset).toArray = ls at hl ⊢
  have hl : lv_has ls 2 [(0, .int p1), (1, .int p2)] := hl
  obtain ⟨R0, eR⟩ : ∃ z, z = f_X6_has p1 p2 := ⟨_, rfl⟩
  have hR := eR
  rw [f_X6_has] at hR
  refine lv_iload_n hx hb dX6_has_0 rfl (lv_at hl 0 rfl) ?_
  refine lv_iload_n hx hb dX6_has_1 rfl (lv_at hl 1 rfl) ?_
  refine lv_ishr hx hb dX6_has_2 ?_
  refine lv_iconst (v := 1) hx hb dX6_has_3 (by decide) ?_
  refine lv_iand hx hb dX6_has_4 ?_
  refine lv_iconst (v := 1) hx hb dX6_has_5 (by decide) ?_
  refine lv_icmp_ne (tgt := 13) hx hb dX6_has_6 (by decide) (fun c1 => ?_) (fun c1 => ?_)
  · rw [if_neg c1] at hR
    refine lv_iconst (v := 0) hx hb dX6_has_13 (by decide) ?_
    exact W.zret (v := 0) hx hb hr rfl (fun t ht hWw => ⟨⟨0, (), rfl, ⟨hR.symm.trans eR, (Or.inl rfl)⟩, trivial⟩, hS.F ht⟩) hS.2.2 dX6_has_14
  · rw [if_pos c1] at hR
    refine lv_iconst (v := 1) hx hb dX6_has_9 (by decide) ?_
    refine lv_goto (tgt := 14) hx hb dX6_has_10 (by decide) ?_
    exact W.zret (v := 1) hx hb hr rfl (fun t ht hWw => ⟨⟨1, (), rfl, ⟨hR.symm.trans eR, (Or.inr rfl)⟩, trivial⟩, hS.F ht⟩) hS.2.2 dX6_has_14
abbrev rm_X6_at : Room := { frames := 0, cells := 0, slots := 0, locals := 0 }
def f_X6_at  (p1 : Int32) : Int32 := (if 12 ≤ p1 then (72 + p1) - 12 else (5 * p1) + 1)
set_option maxHeartbeats 4000000 in
set_option maxRecDepth 100000 in
theorem c_X6_at (l : Launch) (dC : Nat → ClassId) (dI : Nat → Nat → Nat) (cI cC cS : ClassId)   (sz : Nat) (p1 : Int32)  : Met l yX6_at wsX6_at rm_X6_at (PcG (dC, dI) (tyL cI cC cS) ([]) sz [.int p1]) (va_Qi (fun (r : Int32) (_ : Unit) => r = f_X6_at p1) (fun _ _ => True) (va_A [] sz)) 0 0 (va_A [] sz) := by
  refine Met.ofW (cc := cX6_at) (maxL := 1) (ret := (some .int)) (by decide) rfl ?_
  intro p e s m args below meth c s₁ B hml hv
  obtain ⟨rfl, hsz, hP, hK, hD0, hN⟩ := hv
  have hx := B.exec
  have hb := B.bytes
  have hr := B.returns
  have hts := atoms_spec (ws := wsX6_at) B.pre
  have hown : s.vm.findClass RX6 = some m.cls := findClass_of_methodNamed B.named
  have hlocks := B.notSynchronized
  subst hsz
  have hA : ∀ q : Nat, s.heap.size ≤ q → (va_A [] s.heap.size) q := fun q h => Or.inr h
  have hS : va_S (va_A [] s.heap.size) s.heap s.heap [] := va_S.rf
  have hl := lv_entry [.int p1] (n := 1) (Nat.le_of_ble_eq_true rfl)
  rw [lg_entry_eq]
  generalize (lg_sl [.int p1] ++ List.replicate (1 - (lg_sl [.int p1]).length) Slot.unset).toArray = ls at hl ⊢
  have hl : lv_has ls 1 [(0, .int p1)] := hl
  obtain ⟨R0, eR⟩ : ∃ z, z = f_X6_at p1 := ⟨_, rfl⟩
  have hR := eR
  rw [f_X6_at] at hR
  refine lv_iload_n hx hb dX6_at_0 rfl (lv_at hl 0 rfl) ?_
  refine lv_bipush (v := 12) hx hb dX6_at_1 (by decide) ?_
  refine lv_icmp_ge (tgt := 14) hx hb dX6_at_3 (by decide) (fun c1 => ?_) (fun c1 => ?_)
  · rw [if_pos c1] at hR
    refine lv_bipush (v := 72) hx hb dX6_at_14 (by decide) ?_
    refine lv_iload_n hx hb dX6_at_16 rfl (lv_at hl 0 rfl) ?_
    refine lv_iadd hx hb dX6_at_17 ?_
    refine lv_bipush (v := 12) hx hb dX6_at_18 (by decide) ?_
    refine lv_isub hx hb dX6_at_20 ?_
    exact W.iret (v := (72 + p1) - 12) hx hb hr (fun t ht hWw => ⟨⟨(72 + p1) - 12, (), rfl, hR.symm.trans eR, trivial⟩, hS.F ht⟩) hS.2.2 dX6_at_21
  · rw [if_neg c1] at hR
    refine lv_iconst (v := 5) hx hb dX6_at_6 (by decide) ?_
    refine lv_iload_n hx hb dX6_at_7 rfl (lv_at hl 0 rfl) ?_
    refine lv_imul hx hb dX6_at_8 ?_
    refine lv_iconst (v := 1) hx hb dX6_at_9 (by decide) ?_
    refine lv_iadd hx hb dX6_at_10 ?_
    refine lv_goto (tgt := 21) hx hb dX6_at_11 (by decide) ?_
    exact W.iret (v := (5 * p1) + 1) hx hb hr (fun t ht hWw => ⟨⟨(5 * p1) + 1, (), rfl, hR.symm.trans eR, trivial⟩, hS.F ht⟩) hS.2.2 dX6_at_21
abbrev rm_X6_isPart : Room := { frames := 1, cells := 0, slots := 0, locals := 22 }
def f_X6_isPart  (p1 : Int32) (p2 : Int32) : Int32 := (if p1 = 0 then f_X6_in p2 0 1000 else (if p1 = 1 then f_X6_in p2 0 100 else (if p1 = 2 then f_X6_in p2 0 1 else (if p1 = 3 then f_X6_in p2 0 1 else (if p1 = 4 then f_X6_in p2 0 15 else 0)))))
set_option maxHeartbeats 4000000 in
set_option maxRecDepth 100000 in
theorem c_X6_isPart (l : Launch) (dC : Nat → ClassId) (dI : Nat → Nat → Nat) (cI cC cS : ClassId)   (sz : Nat) (p1 : Int32) (p2 : Int32)  : Met l yX6_isPart wsX6_isPart rm_X6_isPart (PcG (dC, dI) (tyL cI cC cS) ([]) sz [.int p1, .int p2]) (va_Qi (fun (r : Int32) (_ : Unit) => r = f_X6_isPart p1 p2 ∧ (r = 0 ∨ r = 1)) (fun _ _ => True) (va_A [] sz)) 0 0 (va_A [] sz) := by
  refine Met.ofW (cc := cX6_isPart) (maxL := 2) (ret := (some .boolean)) (by decide) rfl ?_
  intro p e s m args below meth c s₁ B hml hv
  obtain ⟨rfl, hsz, hP, hK, hD0, hN⟩ := hv
  have hx := B.exec
  have hb := B.bytes
  have hr := B.returns
  have hts := atoms_spec (ws := wsX6_isPart) B.pre
  have hown : s.vm.findClass RX6 = some m.cls := findClass_of_methodNamed B.named
  have hlocks := B.notSynchronized
  subst hsz
  have hA : ∀ q : Nat, s.heap.size ≤ q → (va_A [] s.heap.size) q := fun q h => Or.inr h
  have hS : va_S (va_A [] s.heap.size) s.heap s.heap [] := va_S.rf
  have hl := lv_entry [.int p1, .int p2] (n := 2) (Nat.le_of_ble_eq_true rfl)
  rw [lg_entry_eq]
  generalize (lg_sl [.int p1, .int p2] ++ List.replicate (2 - (lg_sl [.int p1, .int p2]).length) Slot.unset).toArray = ls at hl ⊢
  have hl : lv_has ls 2 [(0, .int p1), (1, .int p2)] := hl
  obtain ⟨R0, eR⟩ : ∃ z, z = f_X6_isPart p1 p2 := ⟨_, rfl⟩
  have hR := eR
  rw [f_X6_isPart] at hR
  refine lv_iload_n hx hb dX6_isPart_0 rfl (lv_at hl 0 rfl) ?_
  rcases Decidable.em (p1 = 0) with c1 | c1
  · rw [if_pos c1] at hR
    refine lv_tableIn (tgt := 36) hx hb dX6_isPart_1 (by rw [c1]; decide) (by rw [c1]; decide) (by rw [c1]; rfl) (by decide) ?_
    refine lv_iload_n hx hb dX6_isPart_36 rfl (lv_at hl 1 rfl) ?_
    refine lv_iconst (v := 0) hx hb dX6_isPart_37 (by decide) ?_
    refine lv_sipush (v := 1000) hx hb dX6_isPart_38 (by decide) ?_
    have hFc : ∀ q : Nat, va_A [] s.heap.size q → (va_A [] s.heap.size) q := roF hS hA
    refine va_calli (va_runS (As := [.int p2, .int 0, .int 1000]) (rest := []) ⟨hx, hb, hml, hown, hts⟩ (c_X6_in l dC dI cI cC cS s.heap.size p2 0 1000) (va_cwS 3 hts gX6_isPart_X6_in rfl rfl rfl (by decide +kernel) ⟨Nat.le_of_ble_eq_true rfl, Nat.le_of_ble_eq_true rfl⟩) (pS hK (va_P_nil) (va_D_nil) hN) rfl rfl hl.1 rfl (lv_room (Nat.le_of_ble_eq_true rfl)) dX6_isPart_41 ⟨Nat.le_of_ble_eq_true rfl, Nat.le_of_ble_eq_true rfl⟩) hS (fun q _ h => hFc q h) hFc (fun r_2 u_2 t_2 H3 locs ht hvm hw hB hz1 hk1 hS => ?_)
    obtain ⟨hw, hre4⟩ := hw
    subst hw
    have hP := ro_keep hP hk1
    exact W.zret (v := f_X6_in p2 0 1000) hx hb hr (nar_bool hre4) (fun t ht hWw => ⟨⟨f_X6_in p2 0 1000, (), rfl, ⟨hR.symm.trans eR, hre4⟩, trivial⟩, hS.F ht⟩) hS.2.2 dX6_isPart_44
  · rw [if_neg c1] at hR
    rcases Decidable.em (p1 = 1) with c5 | c5
    · rw [if_pos c5] at hR
      refine lv_tableIn (tgt := 45) hx hb dX6_isPart_1 (by rw [c5]; decide) (by rw [c5]; decide) (by rw [c5]; rfl) (by decide) ?_
      refine lv_iload_n hx hb dX6_isPart_45 rfl (lv_at hl 1 rfl) ?_
      refine lv_iconst (v := 0) hx hb dX6_isPart_46 (by decide) ?_
      refine lv_bipush (v := 100) hx hb dX6_isPart_47 (by decide) ?_
      have hFc : ∀ q : Nat, va_A [] s.heap.size q → (va_A [] s.heap.size) q := roF hS hA
      refine va_calli (va_runS (As := [.int p2, .int 0, .int 100]) (rest := []) ⟨hx, hb, hml, hown, hts⟩ (c_X6_in l dC dI cI cC cS s.heap.size p2 0 100) (va_cwS 3 hts gX6_isPart_X6_in rfl rfl rfl (by decide +kernel) ⟨Nat.le_of_ble_eq_true rfl, Nat.le_of_ble_eq_true rfl⟩) (pS hK (va_P_nil) (va_D_nil) hN) rfl rfl hl.1 rfl (lv_room (Nat.le_of_ble_eq_true rfl)) dX6_isPart_49 ⟨Nat.le_of_ble_eq_true rfl, Nat.le_of_ble_eq_true rfl⟩) hS (fun q _ h => hFc q h) hFc (fun r_6 u_6 t_6 H7 locs ht hvm hw hB hz1 hk1 hS => ?_)
      obtain ⟨hw, hre8⟩ := hw
      subst hw
      have hP := ro_keep hP hk1
      exact W.zret (v := f_X6_in p2 0 100) hx hb hr (nar_bool hre8) (fun t ht hWw => ⟨⟨f_X6_in p2 0 100, (), rfl, ⟨hR.symm.trans eR, hre8⟩, trivial⟩, hS.F ht⟩) hS.2.2 dX6_isPart_52
    · rw [if_neg c5] at hR
      rcases Decidable.em (p1 = 2) with c9 | c9
      · rw [if_pos c9] at hR
        refine lv_tableIn (tgt := 53) hx hb dX6_isPart_1 (by rw [c9]; decide) (by rw [c9]; decide) (by rw [c9]; rfl) (by decide) ?_
        refine lv_iload_n hx hb dX6_isPart_53 rfl (lv_at hl 1 rfl) ?_
        refine lv_iconst (v := 0) hx hb dX6_isPart_54 (by decide) ?_
        refine lv_iconst (v := 1) hx hb dX6_isPart_55 (by decide) ?_
        have hFc : ∀ q : Nat, va_A [] s.heap.size q → (va_A [] s.heap.size) q := roF hS hA
        refine va_calli (va_runS (As := [.int p2, .int 0, .int 1]) (rest := []) ⟨hx, hb, hml, hown, hts⟩ (c_X6_in l dC dI cI cC cS s.heap.size p2 0 1) (va_cwS 3 hts gX6_isPart_X6_in rfl rfl rfl (by decide +kernel) ⟨Nat.le_of_ble_eq_true rfl, Nat.le_of_ble_eq_true rfl⟩) (pS hK (va_P_nil) (va_D_nil) hN) rfl rfl hl.1 rfl (lv_room (Nat.le_of_ble_eq_true rfl)) dX6_isPart_56 ⟨Nat.le_of_ble_eq_true rfl, Nat.le_of_ble_eq_true rfl⟩) hS (fun q _ h => hFc q h) hFc (fun r_10 u_10 t_10 H11 locs ht hvm hw hB hz1 hk1 hS => ?_)
        obtain ⟨hw, hre12⟩ := hw
        subst hw
        have hP := ro_keep hP hk1
        exact W.zret (v := f_X6_in p2 0 1) hx hb hr (nar_bool hre12) (fun t ht hWw => ⟨⟨f_X6_in p2 0 1, (), rfl, ⟨hR.symm.trans eR, hre12⟩, trivial⟩, hS.F ht⟩) hS.2.2 dX6_isPart_59
      · rw [if_neg c9] at hR
        rcases Decidable.em (p1 = 3) with c13 | c13
        · rw [if_pos c13] at hR
          refine lv_tableIn (tgt := 53) hx hb dX6_isPart_1 (by rw [c13]; decide) (by rw [c13]; decide) (by rw [c13]; rfl) (by decide) ?_
          refine lv_iload_n hx hb dX6_isPart_53 rfl (lv_at hl 1 rfl) ?_
          refine lv_iconst (v := 0) hx hb dX6_isPart_54 (by decide) ?_
          refine lv_iconst (v := 1) hx hb dX6_isPart_55 (by decide) ?_
          have hFc : ∀ q : Nat, va_A [] s.heap.size q → (va_A [] s.heap.size) q := roF hS hA
          refine va_calli (va_runS (As := [.int p2, .int 0, .int 1]) (rest := []) ⟨hx, hb, hml, hown, hts⟩ (c_X6_in l dC dI cI cC cS s.heap.size p2 0 1) (va_cwS 3 hts gX6_isPart_X6_in rfl rfl rfl (by decide +kernel) ⟨Nat.le_of_ble_eq_true rfl, Nat.le_of_ble_eq_true rfl⟩) (pS hK (va_P_nil) (va_D_nil) hN) rfl rfl hl.1 rfl (lv_room (Nat.le_of_ble_eq_true rfl)) dX6_isPart_56 ⟨Nat.le_of_ble_eq_true rfl, Nat.le_of_ble_eq_true rfl⟩) hS (fun q _ h => hFc q h) hFc (fun r_14 u_14 t_14 H15 locs ht hvm hw hB hz1 hk1 hS => ?_)
          obtain ⟨hw, hre16⟩ := hw
          subst hw
          have hP := ro_keep hP hk1
          exact W.zret (v := f_X6_in p2 0 1) hx hb hr (nar_bool hre16) (fun t ht hWw => ⟨⟨f_X6_in p2 0 1, (), rfl, ⟨hR.symm.trans eR, hre16⟩, trivial⟩, hS.F ht⟩) hS.2.2 dX6_isPart_59
        · rw [if_neg c13] at hR
          rcases Decidable.em (p1 = 4) with c17 | c17
          · rw [if_pos c17] at hR
            refine lv_tableIn (tgt := 60) hx hb dX6_isPart_1 (by rw [c17]; decide) (by rw [c17]; decide) (by rw [c17]; rfl) (by decide) ?_
            refine lv_iload_n hx hb dX6_isPart_60 rfl (lv_at hl 1 rfl) ?_
            refine lv_iconst (v := 0) hx hb dX6_isPart_61 (by decide) ?_
            refine lv_bipush (v := 15) hx hb dX6_isPart_62 (by decide) ?_
            have hFc : ∀ q : Nat, va_A [] s.heap.size q → (va_A [] s.heap.size) q := roF hS hA
            refine va_calli (va_runS (As := [.int p2, .int 0, .int 15]) (rest := []) ⟨hx, hb, hml, hown, hts⟩ (c_X6_in l dC dI cI cC cS s.heap.size p2 0 15) (va_cwS 3 hts gX6_isPart_X6_in rfl rfl rfl (by decide +kernel) ⟨Nat.le_of_ble_eq_true rfl, Nat.le_of_ble_eq_true rfl⟩) (pS hK (va_P_nil) (va_D_nil) hN) rfl rfl hl.1 rfl (lv_room (Nat.le_of_ble_eq_true rfl)) dX6_isPart_64 ⟨Nat.le_of_ble_eq_true rfl, Nat.le_of_ble_eq_true rfl⟩) hS (fun q _ h => hFc q h) hFc (fun r_18 u_18 t_18 H19 locs ht hvm hw hB hz1 hk1 hS => ?_)
            obtain ⟨hw, hre20⟩ := hw
            subst hw
            have hP := ro_keep hP hk1
            exact W.zret (v := f_X6_in p2 0 15) hx hb hr (nar_bool hre20) (fun t ht hWw => ⟨⟨f_X6_in p2 0 15, (), rfl, ⟨hR.symm.trans eR, hre20⟩, trivial⟩, hS.F ht⟩) hS.2.2 dX6_isPart_67
          · rw [if_neg c17] at hR
            have tz0 : ¬ p1.toInt = 0 := fun h => c1 (Int32.toInt_inj.mp (h.trans (by decide)))
            have tz1 : ¬ p1.toInt = 1 := fun h => c5 (Int32.toInt_inj.mp (h.trans (by decide)))
            have tz2 : ¬ p1.toInt = 2 := fun h => c9 (Int32.toInt_inj.mp (h.trans (by decide)))
            have tz3 : ¬ p1.toInt = 3 := fun h => c13 (Int32.toInt_inj.mp (h.trans (by decide)))
            have tz4 : ¬ p1.toInt = 4 := fun h => c17 (Int32.toInt_inj.mp (h.trans (by decide)))
            refine lv_tableOut (tgt := 68) hx hb dX6_isPart_1 (by omega) (by decide) ?_
            refine lv_iconst (v := 0) hx hb dX6_isPart_68 (by decide) ?_
            exact W.zret (v := 0) hx hb hr rfl (fun t ht hWw => ⟨⟨0, (), rfl, ⟨hR.symm.trans eR, (Or.inl rfl)⟩, trivial⟩, hS.F ht⟩) hS.2.2 dX6_isPart_69
abbrev rm_X6_bits : Room := { frames := 0, cells := 0, slots := 0, locals := 0 }
def f_X6_bits_p4 (p1 : Int32)  : Nat → Int32 → Int32 → Int32
  | 0, _, _ => 0
  | n_4 + 1, x1_4, x2_4 => (if 12 ≤ x2_4 then x1_4 else (f_X6_bits_p4 p1 n_4) (x1_4 + ((p1 >>> (x2_4 &&& 31)) &&& 1)) (x2_4 + 1))
def f_X6_bits  (p1 : Int32) : Int32 := f_X6_bits_p4 p1 13 0 0
set_option maxHeartbeats 4000000 in
set_option maxRecDepth 100000 in
theorem c_X6_bits (l : Launch) (dC : Nat → ClassId) (dI : Nat → Nat → Nat) (cI cC cS : ClassId)   (sz : Nat) (p1 : Int32)  : Met l yX6_bits wsX6_bits rm_X6_bits (PcG (dC, dI) (tyL cI cC cS) ([]) sz [.int p1]) (va_Qi (fun (r : Int32) (_ : Unit) => r = f_X6_bits p1) (fun _ _ => True) (va_A [] sz)) 0 0 (va_A [] sz) := by
  refine Met.ofW (cc := cX6_bits) (maxL := 3) (ret := (some .int)) (by decide) rfl ?_
  intro p e s m args below meth c s₁ B hml hv
  obtain ⟨rfl, hsz, hP, hK, hD0, hN⟩ := hv
  have hx := B.exec
  have hb := B.bytes
  have hr := B.returns
  have hts := atoms_spec (ws := wsX6_bits) B.pre
  have hown : s.vm.findClass RX6 = some m.cls := findClass_of_methodNamed B.named
  have hlocks := B.notSynchronized
  subst hsz
  have hA : ∀ q : Nat, s.heap.size ≤ q → (va_A [] s.heap.size) q := fun q h => Or.inr h
  have hS : va_S (va_A [] s.heap.size) s.heap s.heap [] := va_S.rf
  have hl := lv_entry [.int p1] (n := 3) (Nat.le_of_ble_eq_true rfl)
  rw [lg_entry_eq]
  generalize (lg_sl [.int p1] ++ List.replicate (3 - (lg_sl [.int p1]).length) Slot.unset).toArray = ls at hl ⊢
  have hl : lv_has ls 3 [(0, .int p1)] := hl
  obtain ⟨R0, eR⟩ : ∃ z, z = f_X6_bits p1 := ⟨_, rfl⟩
  have hR := eR
  rw [f_X6_bits] at hR
  refine lv_iconst (v := 0) hx hb dX6_bits_0 (by decide) ?_
  refine lv_istore_n (lv' := [(1, .int 0), (0, .int p1)]) hx hb dX6_bits_1 rfl hl (by decide) rfl (fun ls hl => ?_)
  refine lv_iconst (v := 0) hx hb dX6_bits_2 (by decide) ?_
  refine lv_istore_n (lv' := [(2, .int 0), (1, .int 0), (0, .int p1)]) hx hb dX6_bits_3 rfl hl (by decide) rfl (fun ls hl => ?_)
  have hL_4 : ∀ n_4 : Nat, ∀ (j_4 : Nat), ∀ (x1_4 : Int32) (x2_4 : Int32) , x2_4 = nI j_4 → j_4 ≤ 12 → 12 < j_4 + n_4 → R0 = f_X6_bits_p4 p1 n_4 x1_4 x2_4 → ∀ (H : Heap) (locs : List Loc) (ls : Array Slot), va_P (dC, dI) vwCl ([]) H → va_S (va_A [] s.heap.size) s.heap H locs → lv_has ls 3 [(0, .int p1), (1, .int x1_4), (2, .int x2_4)] → W p l e (headSpec wsX6_bits rm_X6_bits).room s m ([.int p1] : List Value).toArray below meth c H locs 0 0 (MQ below (va_Qi (fun (r : Int32) (_ : Unit) => r = f_X6_bits p1) (fun _ _ => True) (va_A [] s.heap.size)) ([.int p1] : List Value).toArray s 0 0 (va_A [] s.heap.size)) (F0 m 4 ls []) := by
    intro n_4
    induction n_4 with
    | zero =>
      intro j_4 x1_4 x2_4 ex2_4 hj0_4 hn_4
      exact absurd hn_4 (by omega)
    | succ n_4 ih_4 =>
      intro j_4 x1_4 x2_4 ex2_4 hj0_4 hn_4 hR H locs ls hP hS hl
      rw [f_X6_bits_p4] at hR
      refine lv_iload_n hx hb dX6_bits_4 rfl (lv_at hl 2 rfl) ?_
      refine lv_bipush (v := 12) hx hb dX6_bits_5 (by decide) ?_
      refine lv_icmp_ge (tgt := 24) hx hb dX6_bits_7 (by decide) (fun c1 => ?_) (fun c1 => ?_)
      · rw [if_pos c1] at hR
        refine lv_iload_n hx hb dX6_bits_24 rfl (lv_at hl 1 rfl) ?_
        exact W.iret (v := x1_4) hx hb hr (fun t ht hWw => ⟨⟨x1_4, (), rfl, hR.symm.trans eR, trivial⟩, hS.F ht⟩) hS.2.2 dX6_bits_25
      · rw [if_neg c1] at hR
        have hj_4 : j_4 < 12 := lp_ge ex2_4 (by decide +kernel) (by omega) (by omega) c1
        refine lv_iload_n hx hb dX6_bits_10 rfl (lv_at hl 1 rfl) ?_
        refine lv_iload_n hx hb dX6_bits_11 rfl (lv_at hl 0 rfl) ?_
        refine lv_iload_n hx hb dX6_bits_12 rfl (lv_at hl 2 rfl) ?_
        refine lv_ishr hx hb dX6_bits_13 ?_
        refine lv_iconst (v := 1) hx hb dX6_bits_14 (by decide) ?_
        refine lv_iand hx hb dX6_bits_15 ?_
        refine lv_iadd hx hb dX6_bits_16 ?_
        refine lv_istore_n (lv' := [(1, .int (x1_4 + ((p1 >>> (x2_4 &&& 31)) &&& 1))), (0, .int p1), (2, .int x2_4)]) hx hb dX6_bits_17 rfl hl (by decide) rfl (fun ls hl => ?_)
        refine lv_iinc (v := x2_4 + 1) (lv' := [(2, .int (x2_4 + 1)), (1, .int (x1_4 + ((p1 >>> (x2_4 &&& 31)) &&& 1))), (0, .int p1)]) hx hb dX6_bits_18 hl (k := 2) rfl rfl (by decide) rfl (fun ls hl => ?_)
        refine lv_goto (tgt := 4) hx hb dX6_bits_21 (by decide) ?_
        exact ih_4 (j_4 + 1) (x1_4 + ((p1 >>> (x2_4 &&& 31)) &&& 1)) (x2_4 + 1) (by rw [ex2_4, nI_1]) (by omega) (by omega) hR _ _ _ hP hS (lv_sub hl [2, 1, 0] rfl)
  exact hL_4 13 0 0 0 (by decide +kernel) (by decide) (by decide) hR _ _ _ hP hS (lv_sub hl [2, 1, 0] rfl)
abbrev rm_X6_isScene : Room := { frames := 1, cells := 0, slots := 0, locals := 22 }
def f_X6_isScene  (p1 : Int32) : Int32 := f_X6_in p1 0 5
set_option maxHeartbeats 4000000 in
set_option maxRecDepth 100000 in
theorem c_X6_isScene (l : Launch) (dC : Nat → ClassId) (dI : Nat → Nat → Nat) (cI cC cS : ClassId)   (sz : Nat) (p1 : Int32)  : Met l yX6_isScene wsX6_isScene rm_X6_isScene (PcG (dC, dI) (tyL cI cC cS) ([]) sz [.int p1]) (va_Qi (fun (r : Int32) (_ : Unit) => r = f_X6_isScene p1 ∧ (r = 0 ∨ r = 1)) (fun _ _ => True) (va_A [] sz)) 0 0 (va_A [] sz) := by
  refine Met.ofW (cc := cX6_isScene) (maxL := 1) (ret := (some .boolean)) (by decide) rfl ?_
  intro p e s m args below meth c s₁ B hml hv
  obtain ⟨rfl, hsz, hP, hK, hD0, hN⟩ := hv
  have hx := B.exec
  have hb := B.bytes
  have hr := B.returns
  have hts := atoms_spec (ws := wsX6_isScene) B.pre
  have hown : s.vm.findClass RX6 = some m.cls := findClass_of_methodNamed B.named
  have hlocks := B.notSynchronized
  subst hsz
  have hA : ∀ q : Nat, s.heap.size ≤ q → (va_A [] s.heap.size) q := fun q h => Or.inr h
  have hS : va_S (va_A [] s.heap.size) s.heap s.heap [] := va_S.rf
  have hl := lv_entry [.int p1] (n := 1) (Nat.le_of_ble_eq_true rfl)
  rw [lg_entry_eq]
  generalize (lg_sl [.int p1] ++ List.replicate (1 - (lg_sl [.int p1]).length) Slot.unset).toArray = ls at hl ⊢
  have hl : lv_has ls 1 [(0, .int p1)] := hl
  obtain ⟨R0, eR⟩ : ∃ z, z = f_X6_isScene p1 := ⟨_, rfl⟩
  have hR := eR
  rw [f_X6_isScene] at hR
  refine lv_iload_n hx hb dX6_isScene_0 rfl (lv_at hl 0 rfl) ?_
  refine lv_iconst (v := 0) hx hb dX6_isScene_1 (by decide) ?_
  refine lv_iconst (v := 5) hx hb dX6_isScene_2 (by decide) ?_
  have hFc : ∀ q : Nat, va_A [] s.heap.size q → (va_A [] s.heap.size) q := roF hS hA
  refine va_calli (va_runS (As := [.int p1, .int 0, .int 5]) (rest := []) ⟨hx, hb, hml, hown, hts⟩ (c_X6_in l dC dI cI cC cS s.heap.size p1 0 5) (va_cwS 3 hts gX6_isScene_X6_in rfl rfl rfl (by decide +kernel) ⟨Nat.le_of_ble_eq_true rfl, Nat.le_of_ble_eq_true rfl⟩) (pS hK (va_P_nil) (va_D_nil) hN) rfl rfl hl.1 rfl (lv_room (Nat.le_of_ble_eq_true rfl)) dX6_isScene_3 ⟨Nat.le_of_ble_eq_true rfl, Nat.le_of_ble_eq_true rfl⟩) hS (fun q _ h => hFc q h) hFc (fun r_1 u_1 t_1 H2 locs ht hvm hw hB hz1 hk1 hS => ?_)
  obtain ⟨hw, hre3⟩ := hw
  subst hw
  have hP := ro_keep hP hk1
  exact W.zret (v := f_X6_in p1 0 5) hx hb hr (nar_bool hre3) (fun t ht hWw => ⟨⟨f_X6_in p1 0 5, (), rfl, ⟨hR.symm.trans eR, hre3⟩, trivial⟩, hS.F ht⟩) hS.2.2 dX6_isScene_6
abbrev rm_X6_partOf : Room := { frames := 0, cells := 0, slots := 0, locals := 0 }
def f_X6_partOf  (p1 : Int32) : Int32 := (if p1 = 105 then 0 else (if p1 = 102 then 1 else (if p1 = 109 then 2 else (if p1 = 115 then 3 else (if p1 = 103 then 4 else (-99))))))
set_option maxHeartbeats 4000000 in
set_option maxRecDepth 100000 in
theorem c_X6_partOf (l : Launch) (dC : Nat → ClassId) (dI : Nat → Nat → Nat) (cI cC cS : ClassId)   (sz : Nat) (p1 : Int32)  : Met l yX6_partOf wsX6_partOf rm_X6_partOf (PcG (dC, dI) (tyL cI cC cS) ([]) sz [.int p1]) (va_Qi (fun (r : Int32) (_ : Unit) => r = f_X6_partOf p1 ∧ (r = (-99) ∨ vp_in r 5)) (fun _ _ => True) (va_A [] sz)) 0 0 (va_A [] sz) := by
  refine Met.ofW (cc := cX6_partOf) (maxL := 1) (ret := (some .int)) (by decide) rfl ?_
  intro p e s m args below meth c s₁ B hml hv
  obtain ⟨rfl, hsz, hP, hK, hD0, hN⟩ := hv
  have hx := B.exec
  have hb := B.bytes
  have hr := B.returns
  have hts := atoms_spec (ws := wsX6_partOf) B.pre
  have hown : s.vm.findClass RX6 = some m.cls := findClass_of_methodNamed B.named
  have hlocks := B.notSynchronized
  subst hsz
  have hA : ∀ q : Nat, s.heap.size ≤ q → (va_A [] s.heap.size) q := fun q h => Or.inr h
  have hS : va_S (va_A [] s.heap.size) s.heap s.heap [] := va_S.rf
  have hl := lv_entry [.int p1] (n := 1) (Nat.le_of_ble_eq_true rfl)
  rw [lg_entry_eq]
  generalize (lg_sl [.int p1] ++ List.replicate (1 - (lg_sl [.int p1]).length) Slot.unset).toArray = ls at hl ⊢
  have hl : lv_has ls 1 [(0, .int p1)] := hl
  obtain ⟨R0, eR⟩ : ∃ z, z = f_X6_partOf p1 := ⟨_, rfl⟩
  have hR := eR
  rw [f_X6_partOf] at hR
  refine lv_iload_n hx hb dX6_partOf_0 rfl (lv_at hl 0 rfl) ?_
  refine lv_bipush (v := 105) hx hb dX6_partOf_1 (by decide) ?_
  refine lv_icmp_ne (tgt := 10) hx hb dX6_partOf_3 (by decide) (fun c1 => ?_) (fun c1 => ?_)
  · rw [if_neg c1] at hR
    refine lv_iload_n hx hb dX6_partOf_10 rfl (lv_at hl 0 rfl) ?_
    refine lv_bipush (v := 102) hx hb dX6_partOf_11 (by decide) ?_
    refine lv_icmp_ne (tgt := 20) hx hb dX6_partOf_13 (by decide) (fun c2 => ?_) (fun c2 => ?_)
    · rw [if_neg c2] at hR
      refine lv_iload_n hx hb dX6_partOf_20 rfl (lv_at hl 0 rfl) ?_
      refine lv_bipush (v := 109) hx hb dX6_partOf_21 (by decide) ?_
      refine lv_icmp_ne (tgt := 30) hx hb dX6_partOf_23 (by decide) (fun c3 => ?_) (fun c3 => ?_)
      · rw [if_neg c3] at hR
        refine lv_iload_n hx hb dX6_partOf_30 rfl (lv_at hl 0 rfl) ?_
        refine lv_bipush (v := 115) hx hb dX6_partOf_31 (by decide) ?_
        refine lv_icmp_ne (tgt := 40) hx hb dX6_partOf_33 (by decide) (fun c4 => ?_) (fun c4 => ?_)
        · rw [if_neg c4] at hR
          refine lv_iload_n hx hb dX6_partOf_40 rfl (lv_at hl 0 rfl) ?_
          refine lv_bipush (v := 103) hx hb dX6_partOf_41 (by decide) ?_
          refine lv_icmp_ne (tgt := 50) hx hb dX6_partOf_43 (by decide) (fun c5 => ?_) (fun c5 => ?_)
          · rw [if_neg c5] at hR
            refine lv_bipush (v := (-99)) hx hb dX6_partOf_50 (by decide) ?_
            exact W.iret (v := (-99)) hx hb hr (fun t ht hWw => ⟨⟨(-99), (), rfl, ⟨hR.symm.trans eR, (Or.inl rfl)⟩, trivial⟩, hS.F ht⟩) hS.2.2 dX6_partOf_52
          · rw [if_pos c5] at hR
            refine lv_iconst (v := 4) hx hb dX6_partOf_46 (by decide) ?_
            refine lv_goto (tgt := 52) hx hb dX6_partOf_47 (by decide) ?_
            exact W.iret (v := 4) hx hb hr (fun t ht hWw => ⟨⟨4, (), rfl, ⟨hR.symm.trans eR, (Or.inr (vp_of_B (by decide +kernel)))⟩, trivial⟩, hS.F ht⟩) hS.2.2 dX6_partOf_52
        · rw [if_pos c4] at hR
          refine lv_iconst (v := 3) hx hb dX6_partOf_36 (by decide) ?_
          refine lv_goto (tgt := 52) hx hb dX6_partOf_37 (by decide) ?_
          exact W.iret (v := 3) hx hb hr (fun t ht hWw => ⟨⟨3, (), rfl, ⟨hR.symm.trans eR, (Or.inr (vp_of_B (by decide +kernel)))⟩, trivial⟩, hS.F ht⟩) hS.2.2 dX6_partOf_52
      · rw [if_pos c3] at hR
        refine lv_iconst (v := 2) hx hb dX6_partOf_26 (by decide) ?_
        refine lv_goto (tgt := 52) hx hb dX6_partOf_27 (by decide) ?_
        exact W.iret (v := 2) hx hb hr (fun t ht hWw => ⟨⟨2, (), rfl, ⟨hR.symm.trans eR, (Or.inr (vp_of_B (by decide +kernel)))⟩, trivial⟩, hS.F ht⟩) hS.2.2 dX6_partOf_52
    · rw [if_pos c2] at hR
      refine lv_iconst (v := 1) hx hb dX6_partOf_16 (by decide) ?_
      refine lv_goto (tgt := 52) hx hb dX6_partOf_17 (by decide) ?_
      exact W.iret (v := 1) hx hb hr (fun t ht hWw => ⟨⟨1, (), rfl, ⟨hR.symm.trans eR, (Or.inr (vp_of_B (by decide +kernel)))⟩, trivial⟩, hS.F ht⟩) hS.2.2 dX6_partOf_52
  · rw [if_pos c1] at hR
    refine lv_iconst (v := 0) hx hb dX6_partOf_6 (by decide) ?_
    refine lv_goto (tgt := 52) hx hb dX6_partOf_7 (by decide) ?_
    exact W.iret (v := 0) hx hb hr (fun t ht hWw => ⟨⟨0, (), rfl, ⟨hR.symm.trans eR, (Or.inr (vp_of_B (by decide +kernel)))⟩, trivial⟩, hS.F ht⟩) hS.2.2 dX6_partOf_52
abbrev rm_X6_areDifferent : Room := { frames := 0, cells := 0, slots := 0, locals := 0 }
def f_X6_areDifferent_p52 (p1 : Int32) (p2 : Int32) (p3 : Int32) (p4 : Int32)     : Int32 := (if p2 = 4 then 1 else (if p2 = p3 then 0 else 1))
def f_X6_areDifferent_p37 (p1 : Int32) (p2 : Int32) (p3 : Int32) (p4 : Int32)     : Int32 := (if p1 = 4 then f_X6_areDifferent_p52 p1 p2 p3 p4 else (if p1 = p2 then 0 else (if p1 = p3 then 0 else f_X6_areDifferent_p52 p1 p2 p3 p4)))
def f_X6_areDifferent_p25 (p1 : Int32) (p2 : Int32) (p3 : Int32) (p4 : Int32)     : Int32 := (if 4 ≤ p3 then f_X6_areDifferent_p37 p1 p2 p3 p4 else (if p2 = 4 then 0 else f_X6_areDifferent_p37 p1 p2 p3 p4))
def f_X6_areDifferent  (p1 : Int32) (p2 : Int32) (p3 : Int32) (p4 : Int32) : Int32 := (if p1 = p4 then 0 else (if p2 = p4 then 0 else (if p3 = p4 then 0 else (if 4 ≤ p2 then f_X6_areDifferent_p25 p1 p2 p3 p4 else (if p1 = 4 then 0 else f_X6_areDifferent_p25 p1 p2 p3 p4)))))
set_option maxHeartbeats 4000000 in
set_option maxRecDepth 100000 in
theorem c_X6_areDifferent (l : Launch) (dC : Nat → ClassId) (dI : Nat → Nat → Nat) (cI cC cS : ClassId)   (sz : Nat) (p1 : Int32) (p2 : Int32) (p3 : Int32) (p4 : Int32)  : Met l yX6_areDifferent wsX6_areDifferent rm_X6_areDifferent (PcG (dC, dI) (tyL cI cC cS) ([]) sz [.int p1, .int p2, .int p3, .int p4]) (va_Qi (fun (r : Int32) (_ : Unit) => r = f_X6_areDifferent p1 p2 p3 p4 ∧ (r = 0 ∨ r = 1)) (fun _ _ => True) (va_A [] sz)) 0 0 (va_A [] sz) := by
  refine Met.ofW (cc := cX6_areDifferent) (maxL := 4) (ret := (some .boolean)) (by decide) rfl ?_
  intro p e s m args below meth c s₁ B hml hv
  obtain ⟨rfl, hsz, hP, hK, hD0, hN⟩ := hv
  have hx := B.exec
  have hb := B.bytes
  have hr := B.returns
  have hts := atoms_spec (ws := wsX6_areDifferent) B.pre
  have hown : s.vm.findClass RX6 = some m.cls := findClass_of_methodNamed B.named
  have hlocks := B.notSynchronized
  subst hsz
  have hA : ∀ q : Nat, s.heap.size ≤ q → (va_A [] s.heap.size) q := fun q h => Or.inr h
  have hS : va_S (va_A [] s.heap.size) s.heap s.heap [] := va_S.rf
  have hl := lv_entry [.int p1, .int p2, .int p3, .int p4] (n := 4) (Nat.le_of_ble_eq_true rfl)
  rw [lg_entry_eq]
  generalize (lg_sl [.int p1, .int p2, .int p3, .int p4] ++ List.replicate (4 - (lg_sl [.int p1, .int p2, .int p3, .int p4]).length) Slot.unset).toArray = ls at hl ⊢
  have hl : lv_has ls 4 [(0, .int p1), (1, .int p2), (2, .int p3), (3, .int p4)] := hl
  obtain ⟨R0, eR⟩ : ∃ z, z = f_X6_areDifferent p1 p2 p3 p4 := ⟨_, rfl⟩
  have hR := eR
  rw [f_X6_areDifferent] at hR
  refine lv_iload_n hx hb dX6_areDifferent_0 rfl (lv_at hl 0 rfl) ?_
  refine lv_iload_n hx hb dX6_areDifferent_1 rfl (lv_at hl 3 rfl) ?_
  refine lv_icmp_eq (tgt := 35) hx hb dX6_areDifferent_2 (by decide) (fun c1 => ?_) (fun c1 => ?_)
  · rw [if_pos c1] at hR
    refine lv_iconst (v := 0) hx hb dX6_areDifferent_35 (by decide) ?_
    exact W.zret (v := 0) hx hb hr rfl (fun t ht hWw => ⟨⟨0, (), rfl, ⟨hR.symm.trans eR, (Or.inl rfl)⟩, trivial⟩, hS.F ht⟩) hS.2.2 dX6_areDifferent_36
  · rw [if_neg c1] at hR
    refine lv_iload_n hx hb dX6_areDifferent_5 rfl (lv_at hl 1 rfl) ?_
    refine lv_iload_n hx hb dX6_areDifferent_6 rfl (lv_at hl 3 rfl) ?_
    refine lv_icmp_eq (tgt := 35) hx hb dX6_areDifferent_7 (by decide) (fun c2 => ?_) (fun c2 => ?_)
    · rw [if_pos c2] at hR
      refine lv_iconst (v := 0) hx hb dX6_areDifferent_35 (by decide) ?_
      exact W.zret (v := 0) hx hb hr rfl (fun t ht hWw => ⟨⟨0, (), rfl, ⟨hR.symm.trans eR, (Or.inl rfl)⟩, trivial⟩, hS.F ht⟩) hS.2.2 dX6_areDifferent_36
    · rw [if_neg c2] at hR
      refine lv_iload_n hx hb dX6_areDifferent_10 rfl (lv_at hl 2 rfl) ?_
      refine lv_iload_n hx hb dX6_areDifferent_11 rfl (lv_at hl 3 rfl) ?_
      refine lv_icmp_eq (tgt := 35) hx hb dX6_areDifferent_12 (by decide) (fun c3 => ?_) (fun c3 => ?_)
      · rw [if_pos c3] at hR
        refine lv_iconst (v := 0) hx hb dX6_areDifferent_35 (by decide) ?_
        exact W.zret (v := 0) hx hb hr rfl (fun t ht hWw => ⟨⟨0, (), rfl, ⟨hR.symm.trans eR, (Or.inl rfl)⟩, trivial⟩, hS.F ht⟩) hS.2.2 dX6_areDifferent_36
      · rw [if_neg c3] at hR
        refine lv_iload_n hx hb dX6_areDifferent_15 rfl (lv_at hl 1 rfl) ?_
        refine lv_iconst (v := 4) hx hb dX6_areDifferent_16 (by decide) ?_
        have hJ_25 :  R0 = f_X6_areDifferent_p25 p1 p2 p3 p4 → ∀ (H : Heap) (locs : List Loc) (ls : Array Slot), va_P (dC, dI) vwCl ([]) H → va_S (va_A [] s.heap.size) s.heap H locs → lv_has ls 4 [(0, .int p1), (1, .int p2), (2, .int p3), (3, .int p4)] → W p l e (headSpec wsX6_areDifferent rm_X6_areDifferent).room s m ([.int p1, .int p2, .int p3, .int p4] : List Value).toArray below meth c H locs 0 0 (MQ below (va_Qi (fun (r : Int32) (_ : Unit) => r = f_X6_areDifferent p1 p2 p3 p4 ∧ (r = 0 ∨ r = 1)) (fun _ _ => True) (va_A [] s.heap.size)) ([.int p1, .int p2, .int p3, .int p4] : List Value).toArray s 0 0 (va_A [] s.heap.size)) (F0 m 25 ls []) := by
          intro   hR H locs ls hP hS hl
          rw [f_X6_areDifferent_p25] at hR
          refine lv_iload_n hx hb dX6_areDifferent_25 rfl (lv_at hl 2 rfl) ?_
          refine lv_iconst (v := 4) hx hb dX6_areDifferent_26 (by decide) ?_
          have hJ_37 :  R0 = f_X6_areDifferent_p37 p1 p2 p3 p4 → ∀ (H : Heap) (locs : List Loc) (ls : Array Slot), va_P (dC, dI) vwCl ([]) H → va_S (va_A [] s.heap.size) s.heap H locs → lv_has ls 4 [(0, .int p1), (1, .int p2), (2, .int p3), (3, .int p4)] → W p l e (headSpec wsX6_areDifferent rm_X6_areDifferent).room s m ([.int p1, .int p2, .int p3, .int p4] : List Value).toArray below meth c H locs 0 0 (MQ below (va_Qi (fun (r : Int32) (_ : Unit) => r = f_X6_areDifferent p1 p2 p3 p4 ∧ (r = 0 ∨ r = 1)) (fun _ _ => True) (va_A [] s.heap.size)) ([.int p1, .int p2, .int p3, .int p4] : List Value).toArray s 0 0 (va_A [] s.heap.size)) (F0 m 37 ls []) := by
            intro   hR H locs ls hP hS hl
            rw [f_X6_areDifferent_p37] at hR
            refine lv_iload_n hx hb dX6_areDifferent_37 rfl (lv_at hl 0 rfl) ?_
            refine lv_iconst (v := 4) hx hb dX6_areDifferent_38 (by decide) ?_
            have hJ_52 :  R0 = f_X6_areDifferent_p52 p1 p2 p3 p4 → ∀ (H : Heap) (locs : List Loc) (ls : Array Slot), va_P (dC, dI) vwCl ([]) H → va_S (va_A [] s.heap.size) s.heap H locs → lv_has ls 4 [(0, .int p1), (1, .int p2), (2, .int p3), (3, .int p4)] → W p l e (headSpec wsX6_areDifferent rm_X6_areDifferent).room s m ([.int p1, .int p2, .int p3, .int p4] : List Value).toArray below meth c H locs 0 0 (MQ below (va_Qi (fun (r : Int32) (_ : Unit) => r = f_X6_areDifferent p1 p2 p3 p4 ∧ (r = 0 ∨ r = 1)) (fun _ _ => True) (va_A [] s.heap.size)) ([.int p1, .int p2, .int p3, .int p4] : List Value).toArray s 0 0 (va_A [] s.heap.size)) (F0 m 52 ls []) := by
              intro   hR H locs ls hP hS hl
              rw [f_X6_areDifferent_p52] at hR
              refine lv_iload_n hx hb dX6_areDifferent_52 rfl (lv_at hl 1 rfl) ?_
              refine lv_iconst (v := 4) hx hb dX6_areDifferent_53 (by decide) ?_
              refine lv_icmp_eq (tgt := 62) hx hb dX6_areDifferent_54 (by decide) (fun c4 => ?_) (fun c4 => ?_)
              · rw [if_pos c4] at hR
                refine lv_iconst (v := 1) hx hb dX6_areDifferent_62 (by decide) ?_
                refine lv_goto (tgt := 67) hx hb dX6_areDifferent_63 (by decide) ?_
                exact W.zret (v := 1) hx hb hr rfl (fun t ht hWw => ⟨⟨1, (), rfl, ⟨hR.symm.trans eR, (Or.inr rfl)⟩, trivial⟩, hS.F ht⟩) hS.2.2 dX6_areDifferent_67
              · rw [if_neg c4] at hR
                refine lv_iload_n hx hb dX6_areDifferent_57 rfl (lv_at hl 1 rfl) ?_
                refine lv_iload_n hx hb dX6_areDifferent_58 rfl (lv_at hl 2 rfl) ?_
                refine lv_icmp_eq (tgt := 66) hx hb dX6_areDifferent_59 (by decide) (fun c5 => ?_) (fun c5 => ?_)
                · rw [if_pos c5] at hR
                  refine lv_iconst (v := 0) hx hb dX6_areDifferent_66 (by decide) ?_
                  exact W.zret (v := 0) hx hb hr rfl (fun t ht hWw => ⟨⟨0, (), rfl, ⟨hR.symm.trans eR, (Or.inl rfl)⟩, trivial⟩, hS.F ht⟩) hS.2.2 dX6_areDifferent_67
                · rw [if_neg c5] at hR
                  refine lv_iconst (v := 1) hx hb dX6_areDifferent_62 (by decide) ?_
                  refine lv_goto (tgt := 67) hx hb dX6_areDifferent_63 (by decide) ?_
                  exact W.zret (v := 1) hx hb hr rfl (fun t ht hWw => ⟨⟨1, (), rfl, ⟨hR.symm.trans eR, (Or.inr rfl)⟩, trivial⟩, hS.F ht⟩) hS.2.2 dX6_areDifferent_67
            refine lv_icmp_eq (tgt := 52) hx hb dX6_areDifferent_39 (by decide) (fun c6 => ?_) (fun c6 => ?_)
            · rw [if_pos c6] at hR
              exact hJ_52 hR _ _ _ hP hS (lv_sub hl [0, 1, 2, 3] rfl)
            · rw [if_neg c6] at hR
              refine lv_iload_n hx hb dX6_areDifferent_42 rfl (lv_at hl 0 rfl) ?_
              refine lv_iload_n hx hb dX6_areDifferent_43 rfl (lv_at hl 1 rfl) ?_
              refine lv_icmp_eq (tgt := 66) hx hb dX6_areDifferent_44 (by decide) (fun c7 => ?_) (fun c7 => ?_)
              · rw [if_pos c7] at hR
                refine lv_iconst (v := 0) hx hb dX6_areDifferent_66 (by decide) ?_
                exact W.zret (v := 0) hx hb hr rfl (fun t ht hWw => ⟨⟨0, (), rfl, ⟨hR.symm.trans eR, (Or.inl rfl)⟩, trivial⟩, hS.F ht⟩) hS.2.2 dX6_areDifferent_67
              · rw [if_neg c7] at hR
                refine lv_iload_n hx hb dX6_areDifferent_47 rfl (lv_at hl 0 rfl) ?_
                refine lv_iload_n hx hb dX6_areDifferent_48 rfl (lv_at hl 2 rfl) ?_
                refine lv_icmp_eq (tgt := 66) hx hb dX6_areDifferent_49 (by decide) (fun c8 => ?_) (fun c8 => ?_)
                · rw [if_pos c8] at hR
                  refine lv_iconst (v := 0) hx hb dX6_areDifferent_66 (by decide) ?_
                  exact W.zret (v := 0) hx hb hr rfl (fun t ht hWw => ⟨⟨0, (), rfl, ⟨hR.symm.trans eR, (Or.inl rfl)⟩, trivial⟩, hS.F ht⟩) hS.2.2 dX6_areDifferent_67
                · rw [if_neg c8] at hR
                  exact hJ_52 hR _ _ _ hP hS (lv_sub hl [0, 1, 2, 3] rfl)
          refine lv_icmp_ge (tgt := 37) hx hb dX6_areDifferent_27 (by decide) (fun c9 => ?_) (fun c9 => ?_)
          · rw [if_pos c9] at hR
            exact hJ_37 hR _ _ _ hP hS (lv_sub hl [0, 1, 2, 3] rfl)
          · rw [if_neg c9] at hR
            refine lv_iload_n hx hb dX6_areDifferent_30 rfl (lv_at hl 1 rfl) ?_
            refine lv_iconst (v := 4) hx hb dX6_areDifferent_31 (by decide) ?_
            refine lv_icmp_ne (tgt := 37) hx hb dX6_areDifferent_32 (by decide) (fun c10 => ?_) (fun c10 => ?_)
            · rw [if_neg c10] at hR
              exact hJ_37 hR _ _ _ hP hS (lv_sub hl [0, 1, 2, 3] rfl)
            · rw [if_pos c10] at hR
              refine lv_iconst (v := 0) hx hb dX6_areDifferent_35 (by decide) ?_
              exact W.zret (v := 0) hx hb hr rfl (fun t ht hWw => ⟨⟨0, (), rfl, ⟨hR.symm.trans eR, (Or.inl rfl)⟩, trivial⟩, hS.F ht⟩) hS.2.2 dX6_areDifferent_36
        refine lv_icmp_ge (tgt := 25) hx hb dX6_areDifferent_17 (by decide) (fun c11 => ?_) (fun c11 => ?_)
        · rw [if_pos c11] at hR
          exact hJ_25 hR _ _ _ hP hS (lv_sub hl [0, 1, 2, 3] rfl)
        · rw [if_neg c11] at hR
          refine lv_iload_n hx hb dX6_areDifferent_20 rfl (lv_at hl 0 rfl) ?_
          refine lv_iconst (v := 4) hx hb dX6_areDifferent_21 (by decide) ?_
          refine lv_icmp_eq (tgt := 35) hx hb dX6_areDifferent_22 (by decide) (fun c12 => ?_) (fun c12 => ?_)
          · rw [if_pos c12] at hR
            refine lv_iconst (v := 0) hx hb dX6_areDifferent_35 (by decide) ?_
            exact W.zret (v := 0) hx hb hr rfl (fun t ht hWw => ⟨⟨0, (), rfl, ⟨hR.symm.trans eR, (Or.inl rfl)⟩, trivial⟩, hS.F ht⟩) hS.2.2 dX6_areDifferent_36
          · rw [if_neg c12] at hR
            exact hJ_25 hR _ _ _ hP hS (lv_sub hl [0, 1, 2, 3] rfl)
abbrev rm_X6_of : Room := { frames := 0, cells := 0, slots := 0, locals := 0 }
def f_X6_of (R : SR) (p1 : Int32) (p2 : Int32) : Int32 := R 0 ((5 * p1) + p2).toNatClampNeg
theorem ix_11 : ∀ q0 : Nat, q0 < 12 → ∀ q1 : Nat, q1 < 5 → vp_okB ((5 * (nI q0)) + (nI q1)) 289 = true := by decide +kernel
set_option maxHeartbeats 4000000 in
set_option maxRecDepth 100000 in
theorem c_X6_of (l : Launch) (dC : Nat → ClassId) (dI : Nat → Nat → Nat) (cI cC cS : ClassId) (a : Nat → Nat) (R : SR) (sz : Nat) (p1 : Int32) (p2 : Int32) (h1 : vp_in p1 12) (h2 : vp_in p2 5) : Met l yX6_of wsX6_of rm_X6_of (PcG (dC, dI) (tyL cI cC cS) (cMd a cI R) sz [.ref (a 0), .int p1, .int p2]) (va_Qi (fun (r : Int32) (_ : Unit) => r = f_X6_of R p1 p2) (fun _ _ => True) (va_A [] sz)) 0 0 (va_A [] sz) := by
  refine Met.ofW (cc := cX6_of) (maxL := 3) (ret := (some .int)) (by decide) rfl ?_
  intro p e s m args below meth c s₁ B hml hv
  obtain ⟨rfl, hsz, hP, hK, hD0, hN⟩ := hv
  have hx := B.exec
  have hb := B.bytes
  have hr := B.returns
  have hts := atoms_spec (ws := wsX6_of) B.pre
  have hown : s.vm.findClass RX6 = some m.cls := findClass_of_methodNamed B.named
  have hlocks := B.notSynchronized
  subst hsz
  have hA : ∀ q : Nat, s.heap.size ≤ q → (va_A [] s.heap.size) q := fun q h => Or.inr h
  have hS : va_S (va_A [] s.heap.size) s.heap s.heap [] := va_S.rf
  have hin6 : ∀ w ∈ wsX60, w ∈ wsX6_of := fun _ h => List.mem_cons_of_mem _ (List.mem_append_right _ h)
  obtain ⟨ip1, hip1, ep1⟩ := vp_in_of h1 (by decide)
  obtain ⟨ip2, hip2, ep2⟩ := vp_in_of h2 (by decide)
  have hl := lv_entry [.ref (a 0), .int p1, .int p2] (n := 3) (Nat.le_of_ble_eq_true rfl)
  rw [lg_entry_eq]
  generalize (lg_sl [.ref (a 0), .int p1, .int p2] ++ List.replicate (3 - (lg_sl [.ref (a 0), .int p1, .int p2]).length) Slot.unset).toArray = ls at hl ⊢
  have hl : lv_has ls 3 [(0, .ref (a 0)), (1, .int p1), (2, .int p2)] := hl
  obtain ⟨R0, eR⟩ : ∃ z, z = f_X6_of R p1 p2 := ⟨_, rfl⟩
  have hR := eR
  rw [f_X6_of] at hR
  refine lv_aload_n hx hb dX6_of_0 rfl (lv_at hl 0 rfl) ?_
  refine va_get (D := (dC, dI)) (ci := 6) (v := .ref (a 1)) (C := RX6) (T := TX6) (N := 15) hx hb hts hin6 hown hK hP 0 rfl rfl 1 (by decide) (hts (.fieldLink RX6 7 "FeedDeskModel" "s" "[I") (List.mem_of_getElem? (i := 1) rfl)) (fun _ h9 => h9) rfl dX6_of_1 ?_
  refine lv_iconst (v := 5) hx hb dX6_of_4 (by decide) ?_
  refine lv_iload_n hx hb dX6_of_5 rfl (lv_at hl 1 rfl) ?_
  refine lv_imul hx hb dX6_of_6 ?_
  refine lv_iload_n hx hb dX6_of_7 rfl (lv_at hl 2 rfl) ?_
  refine lv_iadd hx hb dX6_of_8 ?_
  refine va_iald (f := R 0) hx hb hK hP 1 0 rfl rfl (by rw [ep1, ep2]; exact vp_of_B (ix_11 ip1 hip1 ip2 hip2)) dX6_of_9 ?_
  exact W.iret (v := R 0 ((5 * p1) + p2).toNatClampNeg) hx hb hr (fun t ht hWw => ⟨⟨R 0 ((5 * p1) + p2).toNatClampNeg, (), rfl, hR.symm.trans eR, trivial⟩, hS.F ht⟩) hS.2.2 dX6_of_10
abbrev rm_X6_soloed : Room := { frames := 0, cells := 0, slots := 0, locals := 0 }
def f_X6_soloed_p4 (R : SR)  : Nat → Int32 → Int32 → Int32
  | 0, _, _ => 0
  | n_4 + 1, x1_4, x2_4 => (if 4 ≤ x2_4 then x1_4 else (f_X6_soloed_p4 R n_4) (x1_4 ||| ((R 0 (76 + x2_4).toNatClampNeg) <<< (x2_4 &&& 31))) (x2_4 + 1))
def f_X6_soloed (R : SR)  : Int32 := f_X6_soloed_p4 R 5 0 0
theorem ix_12 : ∀ q0 : Nat, q0 < 4 → vp_okB (76 + (nI q0)) 289 = true := by decide +kernel
set_option maxHeartbeats 4000000 in
set_option maxRecDepth 100000 in
theorem c_X6_soloed (l : Launch) (dC : Nat → ClassId) (dI : Nat → Nat → Nat) (cI cC cS : ClassId) (a : Nat → Nat) (R : SR) (sz : Nat)   : Met l yX6_soloed wsX6_soloed rm_X6_soloed (PcG (dC, dI) (tyL cI cC cS) (cMd a cI R) sz [.ref (a 0)]) (va_Qi (fun (r : Int32) (_ : Unit) => r = f_X6_soloed R) (fun _ _ => True) (va_A [] sz)) 0 0 (va_A [] sz) := by
  refine Met.ofW (cc := cX6_soloed) (maxL := 3) (ret := (some .int)) (by decide) rfl ?_
  intro p e s m args below meth c s₁ B hml hv
  obtain ⟨rfl, hsz, hP, hK, hD0, hN⟩ := hv
  have hx := B.exec
  have hb := B.bytes
  have hr := B.returns
  have hts := atoms_spec (ws := wsX6_soloed) B.pre
  have hown : s.vm.findClass RX6 = some m.cls := findClass_of_methodNamed B.named
  have hlocks := B.notSynchronized
  subst hsz
  have hA : ∀ q : Nat, s.heap.size ≤ q → (va_A [] s.heap.size) q := fun q h => Or.inr h
  have hS : va_S (va_A [] s.heap.size) s.heap s.heap [] := va_S.rf
  have hin6 : ∀ w ∈ wsX60, w ∈ wsX6_soloed := fun _ h => List.mem_cons_of_mem _ (List.mem_append_right _ h)
  have hl := lv_entry [.ref (a 0)] (n := 3) (Nat.le_of_ble_eq_true rfl)
  rw [lg_entry_eq]
  generalize (lg_sl [.ref (a 0)] ++ List.replicate (3 - (lg_sl [.ref (a 0)]).length) Slot.unset).toArray = ls at hl ⊢
  have hl : lv_has ls 3 [(0, .ref (a 0))] := hl
  obtain ⟨R0, eR⟩ : ∃ z, z = f_X6_soloed R := ⟨_, rfl⟩
  have hR := eR
  rw [f_X6_soloed] at hR
  refine lv_iconst (v := 0) hx hb dX6_soloed_0 (by decide) ?_
  refine lv_istore_n (lv' := [(1, .int 0), (0, .ref (a 0))]) hx hb dX6_soloed_1 rfl hl (by decide) rfl (fun ls hl => ?_)
  refine lv_iconst (v := 0) hx hb dX6_soloed_2 (by decide) ?_
  refine lv_istore_n (lv' := [(2, .int 0), (1, .int 0), (0, .ref (a 0))]) hx hb dX6_soloed_3 rfl hl (by decide) rfl (fun ls hl => ?_)
  have hL_4 : ∀ n_4 : Nat, ∀ (j_4 : Nat), ∀ (x1_4 : Int32) (x2_4 : Int32) , x2_4 = nI j_4 → j_4 ≤ 4 → 4 < j_4 + n_4 → R0 = f_X6_soloed_p4 R n_4 x1_4 x2_4 → ∀ (H : Heap) (locs : List Loc) (ls : Array Slot), va_P (dC, dI) vwCl (cMd a cI R) H → va_S (va_A [] s.heap.size) s.heap H locs → lv_has ls 3 [(0, .ref (a 0)), (1, .int x1_4), (2, .int x2_4)] → W p l e (headSpec wsX6_soloed rm_X6_soloed).room s m ([.ref (a 0)] : List Value).toArray below meth c H locs 0 0 (MQ below (va_Qi (fun (r : Int32) (_ : Unit) => r = f_X6_soloed R) (fun _ _ => True) (va_A [] s.heap.size)) ([.ref (a 0)] : List Value).toArray s 0 0 (va_A [] s.heap.size)) (F0 m 4 ls []) := by
    intro n_4
    induction n_4 with
    | zero =>
      intro j_4 x1_4 x2_4 ex2_4 hj0_4 hn_4
      exact absurd hn_4 (by omega)
    | succ n_4 ih_4 =>
      intro j_4 x1_4 x2_4 ex2_4 hj0_4 hn_4 hR H locs ls hP hS hl
      rw [f_X6_soloed_p4] at hR
      refine lv_iload_n hx hb dX6_soloed_4 rfl (lv_at hl 2 rfl) ?_
      refine lv_iconst (v := 4) hx hb dX6_soloed_5 (by decide) ?_
      refine lv_icmp_ge (tgt := 29) hx hb dX6_soloed_6 (by decide) (fun c1 => ?_) (fun c1 => ?_)
      · rw [if_pos c1] at hR
        refine lv_iload_n hx hb dX6_soloed_29 rfl (lv_at hl 1 rfl) ?_
        exact W.iret (v := x1_4) hx hb hr (fun t ht hWw => ⟨⟨x1_4, (), rfl, hR.symm.trans eR, trivial⟩, hS.F ht⟩) hS.2.2 dX6_soloed_30
      · rw [if_neg c1] at hR
        have hj_4 : j_4 < 4 := lp_ge ex2_4 (by decide +kernel) (by omega) (by omega) c1
        refine lv_iload_n hx hb dX6_soloed_9 rfl (lv_at hl 1 rfl) ?_
        refine lv_aload_n hx hb dX6_soloed_10 rfl (lv_at hl 0 rfl) ?_
        refine va_get (D := (dC, dI)) (ci := 6) (v := .ref (a 1)) (C := RX6) (T := TX6) (N := 15) hx hb hts hin6 hown hK hP 0 rfl rfl 1 (by decide) (hts (.fieldLink RX6 7 "FeedDeskModel" "s" "[I") (List.mem_of_getElem? (i := 1) rfl)) (fun _ h9 => h9) rfl dX6_soloed_11 ?_
        refine lv_bipush (v := 76) hx hb dX6_soloed_14 (by decide) ?_
        refine lv_iload_n hx hb dX6_soloed_16 rfl (lv_at hl 2 rfl) ?_
        refine lv_iadd hx hb dX6_soloed_17 ?_
        refine va_iald (f := R 0) hx hb hK hP 1 0 rfl rfl (by rw [ex2_4]; exact vp_of_B (ix_12 j_4 hj_4)) dX6_soloed_18 ?_
        refine lv_iload_n hx hb dX6_soloed_19 rfl (lv_at hl 2 rfl) ?_
        refine lv_ishl hx hb dX6_soloed_20 ?_
        refine lv_ior hx hb dX6_soloed_21 ?_
        refine lv_istore_n (lv' := [(1, .int (x1_4 ||| ((R 0 (76 + x2_4).toNatClampNeg) <<< (x2_4 &&& 31)))), (0, .ref (a 0)), (2, .int x2_4)]) hx hb dX6_soloed_22 rfl hl (by decide) rfl (fun ls hl => ?_)
        refine lv_iinc (v := x2_4 + 1) (lv' := [(2, .int (x2_4 + 1)), (1, .int (x1_4 ||| ((R 0 (76 + x2_4).toNatClampNeg) <<< (x2_4 &&& 31)))), (0, .ref (a 0))]) hx hb dX6_soloed_23 hl (k := 2) rfl rfl (by decide) rfl (fun ls hl => ?_)
        refine lv_goto (tgt := 4) hx hb dX6_soloed_26 (by decide) ?_
        exact ih_4 (j_4 + 1) (x1_4 ||| ((R 0 (76 + x2_4).toNatClampNeg) <<< (x2_4 &&& 31))) (x2_4 + 1) (by rw [ex2_4, nI_1]) (by omega) (by omega) hR _ _ _ hP hS (lv_sub hl [2, 1, 0] rfl)
  exact hL_4 5 0 0 0 (by decide +kernel) (by decide) (by decide) hR _ _ _ hP hS (lv_sub hl [2, 1, 0] rfl)
abbrev rm_X6_isShut : Room := { frames := 1, cells := 0, slots := 0, locals := 22 }
def f_X6_isShut (R : SR) (p1 : Int32) : Int32 := (if (f_X6_soloed R) = 0 then 0 else (if (f_X6_of R p1 3) = 0 then (if ((f_X6_of R p1 4) &&& (f_X6_soloed R)) = 0 then 1 else 0) else 0))
set_option maxHeartbeats 4000000 in
set_option maxRecDepth 100000 in
theorem c_X6_isShut (l : Launch) (dC : Nat → ClassId) (dI : Nat → Nat → Nat) (cI cC cS : ClassId) (a : Nat → Nat) (R : SR) (sz : Nat) (p1 : Int32) (h1 : vp_in p1 12) : Met l yX6_isShut wsX6_isShut rm_X6_isShut (PcG (dC, dI) (tyL cI cC cS) (cMd a cI R) sz [.ref (a 0), .int p1]) (va_Qi (fun (r : Int32) (_ : Unit) => r = f_X6_isShut R p1 ∧ (r = 0 ∨ r = 1)) (fun _ _ => True) (va_A [] sz)) 0 0 (va_A [] sz) := by
  refine Met.ofW (cc := cX6_isShut) (maxL := 2) (ret := (some .boolean)) (by decide) rfl ?_
  intro p e s m args below meth c s₁ B hml hv
  obtain ⟨rfl, hsz, hP, hK, hD0, hN⟩ := hv
  have hx := B.exec
  have hb := B.bytes
  have hr := B.returns
  have hts := atoms_spec (ws := wsX6_isShut) B.pre
  have hown : s.vm.findClass RX6 = some m.cls := findClass_of_methodNamed B.named
  have hlocks := B.notSynchronized
  subst hsz
  have hA : ∀ q : Nat, s.heap.size ≤ q → (va_A [] s.heap.size) q := fun q h => Or.inr h
  have hS : va_S (va_A [] s.heap.size) s.heap s.heap [] := va_S.rf
  have hl := lv_entry [.ref (a 0), .int p1] (n := 2) (Nat.le_of_ble_eq_true rfl)
  rw [lg_entry_eq]
  generalize (lg_sl [.ref (a 0), .int p1] ++ List.replicate (2 - (lg_sl [.ref (a 0), .int p1]).length) Slot.unset).toArray = ls at hl ⊢
  have hl : lv_has ls 2 [(0, .ref (a 0)), (1, .int p1)] := hl
  obtain ⟨R0, eR⟩ : ∃ z, z = f_X6_isShut R p1 := ⟨_, rfl⟩
  have hR := eR
  rw [f_X6_isShut] at hR
  refine lv_aload_n hx hb dX6_isShut_0 rfl (lv_at hl 0 rfl) ?_
  have hPc : va_P (dC, dI) vwCl (cMd a cI R) s.heap := hP.sub [0, 1, 2, 3, 4, 5, 6] rfl
  have hDc : va_D (fun _ => True) (cMd a cI R) := hD0.sub [0, 1, 2, 3, 4, 5, 6] (by decide) rfl
  have hFc : ∀ q : Nat, va_A [] s.heap.size q → (va_A [] s.heap.size) q := roF hS hA
  refine va_calli (va_runV (As := []) (rest := []) ⟨hx, hb, hml, hown, hts⟩ (c_X6_soloed l dC dI cI cC cS a R s.heap.size) (cwV 0 hts gX6_isShut_X6_soloed rfl rfl rfl (by decide +kernel) ⟨Nat.le_of_ble_eq_true rfl, Nat.le_of_ble_eq_true rfl⟩) (pV (q0 := 0) hK hPc hDc hN rfl rfl) rfl rfl hl.1 rfl (lv_room (Nat.le_of_ble_eq_true rfl)) dX6_isShut_1 ⟨Nat.le_of_ble_eq_true rfl, Nat.le_of_ble_eq_true rfl⟩) hS (fun q _ h => hFc q h) hFc (fun r_1 u_1 t_1 H2 locs ht hvm hw hB hz1 hk1 hS => ?_)
  subst hw
  have hP := ro_keep hP hk1
  refine lv_if_eq (tgt := 34) hx hb dX6_isShut_4 (by decide) (fun c3 => ?_) (fun c3 => ?_)
  · rw [if_pos c3] at hR
    refine lv_iconst (v := 0) hx hb dX6_isShut_34 (by decide) ?_
    exact W.zret (v := 0) hx hb hr rfl (fun t ht hWw => ⟨⟨0, (), rfl, ⟨hR.symm.trans eR, (Or.inl rfl)⟩, trivial⟩, hS.F ht⟩) hS.2.2 dX6_isShut_35
  · rw [if_neg c3] at hR
    refine lv_aload_n hx hb dX6_isShut_7 rfl (lv_at hl 0 rfl) ?_
    refine lv_iload_n hx hb dX6_isShut_8 rfl (lv_at hl 1 rfl) ?_
    refine lv_iconst (v := 3) hx hb dX6_isShut_9 (by decide) ?_
    have hPc : va_P (dC, dI) vwCl (cMd a cI R) H2 := hP.sub [0, 1, 2, 3, 4, 5, 6] rfl
    have hDc : va_D (fun _ => True) (cMd a cI R) := hD0.sub [0, 1, 2, 3, 4, 5, 6] (by decide) rfl
    have hFc : ∀ q : Nat, va_A [] H2.size q → (va_A [] s.heap.size) q := roF hS hA
    refine va_calli (va_runV (As := [.int p1, .int 3]) (rest := []) ⟨hx, hb, hml, hown, hts⟩ (c_X6_of l dC dI cI cC cS a R H2.size p1 3 h1 (vp_of_B (by decide +kernel : vp_okB (3) 5 = true))) (cwV 2 hts gX6_isShut_X6_of rfl rfl rfl (by decide +kernel) ⟨Nat.le_of_ble_eq_true rfl, Nat.le_of_ble_eq_true rfl⟩) (pV (q0 := 0) hK hPc hDc hN rfl rfl) rfl rfl hl.1 rfl (lv_room (Nat.le_of_ble_eq_true rfl)) dX6_isShut_10 ⟨Nat.le_of_ble_eq_true rfl, Nat.le_of_ble_eq_true rfl⟩) hS (fun q _ h => hFc q h) hFc (fun r_4 u_4 t_4 H5 locs ht hvm hw hB hz1 hk1 hS => ?_)
    subst hw
    have hP := ro_keep hP hk1
    refine lv_if_ne (tgt := 34) hx hb dX6_isShut_13 (by decide) (fun c6 => ?_) (fun c6 => ?_)
    · rw [if_neg c6] at hR
      refine lv_iconst (v := 0) hx hb dX6_isShut_34 (by decide) ?_
      exact W.zret (v := 0) hx hb hr rfl (fun t ht hWw => ⟨⟨0, (), rfl, ⟨hR.symm.trans eR, (Or.inl rfl)⟩, trivial⟩, hS.F ht⟩) hS.2.2 dX6_isShut_35
    · rw [if_pos c6] at hR
      refine lv_aload_n hx hb dX6_isShut_16 rfl (lv_at hl 0 rfl) ?_
      refine lv_iload_n hx hb dX6_isShut_17 rfl (lv_at hl 1 rfl) ?_
      refine lv_iconst (v := 4) hx hb dX6_isShut_18 (by decide) ?_
      have hPc : va_P (dC, dI) vwCl (cMd a cI R) H5 := hP.sub [0, 1, 2, 3, 4, 5, 6] rfl
      have hDc : va_D (fun _ => True) (cMd a cI R) := hD0.sub [0, 1, 2, 3, 4, 5, 6] (by decide) rfl
      have hFc : ∀ q : Nat, va_A [] H5.size q → (va_A [] s.heap.size) q := roF hS hA
      refine va_calli (va_runV (As := [.int p1, .int 4]) (rest := []) ⟨hx, hb, hml, hown, hts⟩ (c_X6_of l dC dI cI cC cS a R H5.size p1 4 h1 (vp_of_B (by decide +kernel : vp_okB (4) 5 = true))) (cwV 2 hts gX6_isShut_X6_of rfl rfl rfl (by decide +kernel) ⟨Nat.le_of_ble_eq_true rfl, Nat.le_of_ble_eq_true rfl⟩) (pV (q0 := 0) hK hPc hDc hN rfl rfl) rfl rfl hl.1 rfl (lv_room (Nat.le_of_ble_eq_true rfl)) dX6_isShut_19 ⟨Nat.le_of_ble_eq_true rfl, Nat.le_of_ble_eq_true rfl⟩) hS (fun q _ h => hFc q h) hFc (fun r_7 u_7 t_7 H8 locs ht hvm hw hB hz1 hk1 hS => ?_)
      subst hw
      have hP := ro_keep hP hk1
      refine lv_aload_n hx hb dX6_isShut_22 rfl (lv_at hl 0 rfl) ?_
      have hPc : va_P (dC, dI) vwCl (cMd a cI R) H8 := hP.sub [0, 1, 2, 3, 4, 5, 6] rfl
      have hDc : va_D (fun _ => True) (cMd a cI R) := hD0.sub [0, 1, 2, 3, 4, 5, 6] (by decide) rfl
      have hFc : ∀ q : Nat, va_A [] H8.size q → (va_A [] s.heap.size) q := roF hS hA
      refine va_calli (va_runV (As := []) (rest := [.int (f_X6_of R p1 4)]) ⟨hx, hb, hml, hown, hts⟩ (c_X6_soloed l dC dI cI cC cS a R H8.size) (cwV 0 hts gX6_isShut_X6_soloed rfl rfl rfl (by decide +kernel) ⟨Nat.le_of_ble_eq_true rfl, Nat.le_of_ble_eq_true rfl⟩) (pV (q0 := 0) hK hPc hDc hN rfl rfl) rfl rfl hl.1 rfl (lv_room (Nat.le_of_ble_eq_true rfl)) dX6_isShut_23 ⟨Nat.le_of_ble_eq_true rfl, Nat.le_of_ble_eq_true rfl⟩) hS (fun q _ h => hFc q h) hFc (fun r_9 u_9 t_9 H10 locs ht hvm hw hB hz1 hk1 hS => ?_)
      subst hw
      have hP := ro_keep hP hk1
      refine lv_iand hx hb dX6_isShut_26 ?_
      refine lv_if_ne (tgt := 34) hx hb dX6_isShut_27 (by decide) (fun c11 => ?_) (fun c11 => ?_)
      · rw [if_neg c11] at hR
        refine lv_iconst (v := 0) hx hb dX6_isShut_34 (by decide) ?_
        exact W.zret (v := 0) hx hb hr rfl (fun t ht hWw => ⟨⟨0, (), rfl, ⟨hR.symm.trans eR, (Or.inl rfl)⟩, trivial⟩, hS.F ht⟩) hS.2.2 dX6_isShut_35
      · rw [if_pos c11] at hR
        refine lv_iconst (v := 1) hx hb dX6_isShut_30 (by decide) ?_
        refine lv_goto (tgt := 35) hx hb dX6_isShut_31 (by decide) ?_
        exact W.zret (v := 1) hx hb hr rfl (fun t ht hWw => ⟨⟨1, (), rfl, ⟨hR.symm.trans eR, (Or.inr rfl)⟩, trivial⟩, hS.F ht⟩) hS.2.2 dX6_isShut_35
abbrev rm_X6_level : Room := { frames := 2, cells := 0, slots := 0, locals := 43 }
def f_X6_level_p29 (R : SR) (p1 : Int32)  : Nat → Int32 → Int32 → Int32
  | 0, _, _ => 0
  | n_29 + 1, x2_29, x3_29 => (if 4 ≤ x3_29 then x2_29 else (if (f_X6_has (f_X6_of R p1 4) x3_29) = 0 then (f_X6_level_p29 R p1 n_29) x2_29 (x3_29 + 1) else (f_X6_level_p29 R p1 n_29) ((x2_29 * (R 0 (72 + x3_29).toNatClampNeg)) / 100) (x3_29 + 1)))
def f_X6_level (R : SR) (p1 : Int32) : Int32 := (if (f_X6_of R p1 2) = 1 then 0 else (if (f_X6_isShut R p1) = 0 then f_X6_level_p29 R p1 5 (f_X6_of R p1 1) 0 else 0))
theorem ix_13 : ∀ q0 : Nat, q0 < 4 → vp_okB (72 + (nI q0)) 289 = true := by decide +kernel
set_option maxHeartbeats 4000000 in
set_option maxRecDepth 100000 in
theorem c_X6_level (l : Launch) (dC : Nat → ClassId) (dI : Nat → Nat → Nat) (cI cC cS : ClassId) (a : Nat → Nat) (R : SR) (sz : Nat) (p1 : Int32) (h1 : vp_in p1 12) : Met l yX6_level wsX6_level rm_X6_level (PcG (dC, dI) (tyL cI cC cS) (cMd a cI R) sz [.ref (a 0), .int p1]) (va_Qi (fun (r : Int32) (_ : Unit) => r = f_X6_level R p1) (fun _ _ => True) (va_A [] sz)) 0 0 (va_A [] sz) := by
  refine Met.ofW (cc := cX6_level) (maxL := 4) (ret := (some .int)) (by decide) rfl ?_
  intro p e s m args below meth c s₁ B hml hv
  obtain ⟨rfl, hsz, hP, hK, hD0, hN⟩ := hv
  have hx := B.exec
  have hb := B.bytes
  have hr := B.returns
  have hts := atoms_spec (ws := wsX6_level) B.pre
  have hown : s.vm.findClass RX6 = some m.cls := findClass_of_methodNamed B.named
  have hlocks := B.notSynchronized
  subst hsz
  have hA : ∀ q : Nat, s.heap.size ≤ q → (va_A [] s.heap.size) q := fun q h => Or.inr h
  have hS : va_S (va_A [] s.heap.size) s.heap s.heap [] := va_S.rf
  have hin6 : ∀ w ∈ wsX60, w ∈ wsX6_level := fun _ h => List.mem_cons_of_mem _ (List.mem_append_right _ h)
  have hl := lv_entry [.ref (a 0), .int p1] (n := 4) (Nat.le_of_ble_eq_true rfl)
  rw [lg_entry_eq]
  generalize (lg_sl [.ref (a 0), .int p1] ++ List.replicate (4 - (lg_sl [.ref (a 0), .int p1]).length) Slot.unset).toArray = ls at hl ⊢
  have hl : lv_has ls 4 [(0, .ref (a 0)), (1, .int p1)] := hl
  obtain ⟨R0, eR⟩ : ∃ z, z = f_X6_level R p1 := ⟨_, rfl⟩
  have hR := eR
  rw [f_X6_level] at hR
  refine lv_aload_n hx hb dX6_level_0 rfl (lv_at hl 0 rfl) ?_
  refine lv_iload_n hx hb dX6_level_1 rfl (lv_at hl 1 rfl) ?_
  refine lv_iconst (v := 2) hx hb dX6_level_2 (by decide) ?_
  have hPc : va_P (dC, dI) vwCl (cMd a cI R) s.heap := hP.sub [0, 1, 2, 3, 4, 5, 6] rfl
  have hDc : va_D (fun _ => True) (cMd a cI R) := hD0.sub [0, 1, 2, 3, 4, 5, 6] (by decide) rfl
  have hFc : ∀ q : Nat, va_A [] s.heap.size q → (va_A [] s.heap.size) q := roF hS hA
  refine va_calli (va_runV (As := [.int p1, .int 2]) (rest := []) ⟨hx, hb, hml, hown, hts⟩ (c_X6_of l dC dI cI cC cS a R s.heap.size p1 2 h1 (vp_of_B (by decide +kernel : vp_okB (2) 5 = true))) (cwV 2 hts gX6_level_X6_of rfl rfl rfl (by decide +kernel) ⟨Nat.le_of_ble_eq_true rfl, Nat.le_of_ble_eq_true rfl⟩) (pV (q0 := 0) hK hPc hDc hN rfl rfl) rfl rfl hl.1 rfl (lv_room (Nat.le_of_ble_eq_true rfl)) dX6_level_3 ⟨Nat.le_of_ble_eq_true rfl, Nat.le_of_ble_eq_true rfl⟩) hS (fun q _ h => hFc q h) hFc (fun r_1 u_1 t_1 H2 locs ht hvm hw hB hz1 hk1 hS => ?_)
  subst hw
  have hP := ro_keep hP hk1
  refine lv_iconst (v := 1) hx hb dX6_level_6 (by decide) ?_
  refine lv_icmp_eq (tgt := 18) hx hb dX6_level_7 (by decide) (fun c3 => ?_) (fun c3 => ?_)
  · rw [if_pos c3] at hR
    refine lv_iconst (v := 0) hx hb dX6_level_18 (by decide) ?_
    exact W.iret (v := 0) hx hb hr (fun t ht hWw => ⟨⟨0, (), rfl, hR.symm.trans eR, trivial⟩, hS.F ht⟩) hS.2.2 dX6_level_19
  · rw [if_neg c3] at hR
    refine lv_aload_n hx hb dX6_level_10 rfl (lv_at hl 0 rfl) ?_
    refine lv_iload_n hx hb dX6_level_11 rfl (lv_at hl 1 rfl) ?_
    have hPc : va_P (dC, dI) vwCl (cMd a cI R) H2 := hP.sub [0, 1, 2, 3, 4, 5, 6] rfl
    have hDc : va_D (fun _ => True) (cMd a cI R) := hD0.sub [0, 1, 2, 3, 4, 5, 6] (by decide) rfl
    have hFc : ∀ q : Nat, va_A [] H2.size q → (va_A [] s.heap.size) q := roF hS hA
    refine va_calli (va_runV (As := [.int p1]) (rest := []) ⟨hx, hb, hml, hown, hts⟩ (c_X6_isShut l dC dI cI cC cS a R H2.size p1 h1) (cwV 1 hts gX6_level_X6_isShut rfl rfl rfl (by decide +kernel) ⟨Nat.le_of_ble_eq_true rfl, Nat.le_of_ble_eq_true rfl⟩) (pV (q0 := 0) hK hPc hDc hN rfl rfl) rfl rfl hl.1 rfl (lv_room (Nat.le_of_ble_eq_true rfl)) dX6_level_12 ⟨Nat.le_of_ble_eq_true rfl, Nat.le_of_ble_eq_true rfl⟩) hS (fun q _ h => hFc q h) hFc (fun r_4 u_4 t_4 H5 locs ht hvm hw hB hz1 hk1 hS => ?_)
    obtain ⟨hw, hre6⟩ := hw
    subst hw
    have hP := ro_keep hP hk1
    refine lv_if_eq (tgt := 20) hx hb dX6_level_15 (by decide) (fun c7 => ?_) (fun c7 => ?_)
    · rw [if_pos c7] at hR
      refine lv_aload_n hx hb dX6_level_20 rfl (lv_at hl 0 rfl) ?_
      refine lv_iload_n hx hb dX6_level_21 rfl (lv_at hl 1 rfl) ?_
      refine lv_iconst (v := 1) hx hb dX6_level_22 (by decide) ?_
      have hPc : va_P (dC, dI) vwCl (cMd a cI R) H5 := hP.sub [0, 1, 2, 3, 4, 5, 6] rfl
      have hDc : va_D (fun _ => True) (cMd a cI R) := hD0.sub [0, 1, 2, 3, 4, 5, 6] (by decide) rfl
      have hFc : ∀ q : Nat, va_A [] H5.size q → (va_A [] s.heap.size) q := roF hS hA
      refine va_calli (va_runV (As := [.int p1, .int 1]) (rest := []) ⟨hx, hb, hml, hown, hts⟩ (c_X6_of l dC dI cI cC cS a R H5.size p1 1 h1 (vp_of_B (by decide +kernel : vp_okB (1) 5 = true))) (cwV 2 hts gX6_level_X6_of rfl rfl rfl (by decide +kernel) ⟨Nat.le_of_ble_eq_true rfl, Nat.le_of_ble_eq_true rfl⟩) (pV (q0 := 0) hK hPc hDc hN rfl rfl) rfl rfl hl.1 rfl (lv_room (Nat.le_of_ble_eq_true rfl)) dX6_level_23 ⟨Nat.le_of_ble_eq_true rfl, Nat.le_of_ble_eq_true rfl⟩) hS (fun q _ h => hFc q h) hFc (fun r_8 u_8 t_8 H9 locs ht hvm hw hB hz1 hk1 hS => ?_)
      subst hw
      have hP := ro_keep hP hk1
      refine lv_istore_n (lv' := [(2, .int (f_X6_of R p1 1)), (0, .ref (a 0)), (1, .int p1)]) hx hb dX6_level_26 rfl hl (by decide) rfl (fun ls hl => ?_)
      refine lv_iconst (v := 0) hx hb dX6_level_27 (by decide) ?_
      refine lv_istore_n (lv' := [(3, .int 0), (2, .int (f_X6_of R p1 1)), (0, .ref (a 0)), (1, .int p1)]) hx hb dX6_level_28 rfl hl (by decide) rfl (fun ls hl => ?_)
      have hL_29 : ∀ n_29 : Nat, ∀ (j_29 : Nat), ∀ (x2_29 : Int32) (x3_29 : Int32) , x3_29 = nI j_29 → j_29 ≤ 4 → 4 < j_29 + n_29 → R0 = f_X6_level_p29 R p1 n_29 x2_29 x3_29 → ∀ (H : Heap) (locs : List Loc) (ls : Array Slot), va_P (dC, dI) vwCl (cMd a cI R) H → va_S (va_A [] s.heap.size) s.heap H locs → lv_has ls 4 [(0, .ref (a 0)), (1, .int p1), (2, .int x2_29), (3, .int x3_29)] → W p l e (headSpec wsX6_level rm_X6_level).room s m ([.ref (a 0), .int p1] : List Value).toArray below meth c H locs 0 0 (MQ below (va_Qi (fun (r : Int32) (_ : Unit) => r = f_X6_level R p1) (fun _ _ => True) (va_A [] s.heap.size)) ([.ref (a 0), .int p1] : List Value).toArray s 0 0 (va_A [] s.heap.size)) (F0 m 29 ls []) := by
        intro n_29
        induction n_29 with
        | zero =>
          intro j_29 x2_29 x3_29 ex3_29 hj0_29 hn_29
          exact absurd hn_29 (by omega)
        | succ n_29 ih_29 =>
          intro j_29 x2_29 x3_29 ex3_29 hj0_29 hn_29 hR H locs ls hP hS hl
          rw [f_X6_level_p29] at hR
          refine lv_iload_n hx hb dX6_level_29 rfl (lv_at hl 3 rfl) ?_
          refine lv_iconst (v := 4) hx hb dX6_level_30 (by decide) ?_
          refine lv_icmp_ge (tgt := 72) hx hb dX6_level_31 (by decide) (fun c10 => ?_) (fun c10 => ?_)
          · rw [if_pos c10] at hR
            refine lv_iload_n hx hb dX6_level_72 rfl (lv_at hl 2 rfl) ?_
            exact W.iret (v := x2_29) hx hb hr (fun t ht hWw => ⟨⟨x2_29, (), rfl, hR.symm.trans eR, trivial⟩, hS.F ht⟩) hS.2.2 dX6_level_73
          · rw [if_neg c10] at hR
            have hj_29 : j_29 < 4 := lp_ge ex3_29 (by decide +kernel) (by omega) (by omega) c10
            refine lv_aload_n hx hb dX6_level_34 rfl (lv_at hl 0 rfl) ?_
            refine lv_iload_n hx hb dX6_level_35 rfl (lv_at hl 1 rfl) ?_
            refine lv_iconst (v := 4) hx hb dX6_level_36 (by decide) ?_
            have hPc : va_P (dC, dI) vwCl (cMd a cI R) H := hP.sub [0, 1, 2, 3, 4, 5, 6] rfl
            have hDc : va_D (fun _ => True) (cMd a cI R) := hD0.sub [0, 1, 2, 3, 4, 5, 6] (by decide) rfl
            have hFc : ∀ q : Nat, va_A [] H.size q → (va_A [] s.heap.size) q := roF hS hA
            refine va_calli (va_runV (As := [.int p1, .int 4]) (rest := []) ⟨hx, hb, hml, hown, hts⟩ (c_X6_of l dC dI cI cC cS a R H.size p1 4 h1 (vp_of_B (by decide +kernel : vp_okB (4) 5 = true))) (cwV 2 hts gX6_level_X6_of rfl rfl rfl (by decide +kernel) ⟨Nat.le_of_ble_eq_true rfl, Nat.le_of_ble_eq_true rfl⟩) (pV (q0 := 0) hK hPc hDc hN rfl rfl) rfl rfl hl.1 rfl (lv_room (Nat.le_of_ble_eq_true rfl)) dX6_level_37 ⟨Nat.le_of_ble_eq_true rfl, Nat.le_of_ble_eq_true rfl⟩) hS (fun q _ h => hFc q h) hFc (fun r_11 u_11 t_11 H12 locs ht hvm hw hB hz1 hk1 hS => ?_)
            subst hw
            have hP := ro_keep hP hk1
            refine lv_iload_n hx hb dX6_level_40 rfl (lv_at hl 3 rfl) ?_
            have hFc : ∀ q : Nat, va_A [] H12.size q → (va_A [] s.heap.size) q := roF hS hA
            refine va_calli (va_runS (As := [.int (f_X6_of R p1 4), .int x3_29]) (rest := []) ⟨hx, hb, hml, hown, hts⟩ (c_X6_has l dC dI cI cC cS H12.size (f_X6_of R p1 4) x3_29) (va_cwS 2 hts gX6_level_X6_has rfl rfl rfl (by decide +kernel) ⟨Nat.le_of_ble_eq_true rfl, Nat.le_of_ble_eq_true rfl⟩) (pS hK (va_P_nil) (va_D_nil) hN) rfl rfl hl.1 rfl (lv_room (Nat.le_of_ble_eq_true rfl)) dX6_level_41 ⟨Nat.le_of_ble_eq_true rfl, Nat.le_of_ble_eq_true rfl⟩) hS (fun q _ h => hFc q h) hFc (fun r_13 u_13 t_13 H14 locs ht hvm hw hB hz1 hk1 hS => ?_)
            obtain ⟨hw, hre15⟩ := hw
            subst hw
            have hP := ro_keep hP hk1
            refine lv_if_eq (tgt := 64) hx hb dX6_level_44 (by decide) (fun c16 => ?_) (fun c16 => ?_)
            · rw [if_pos c16] at hR
              refine lv_iload_n hx hb dX6_level_64 rfl (lv_at hl 2 rfl) ?_
              refine lv_istore_n (lv' := [(2, .int x2_29), (0, .ref (a 0)), (1, .int p1), (3, .int x3_29)]) hx hb dX6_level_65 rfl hl (by decide) rfl (fun ls hl => ?_)
              refine lv_iinc (v := x3_29 + 1) (lv' := [(3, .int (x3_29 + 1)), (2, .int x2_29), (0, .ref (a 0)), (1, .int p1)]) hx hb dX6_level_66 hl (k := 3) rfl rfl (by decide) rfl (fun ls hl => ?_)
              refine lv_goto (tgt := 29) hx hb dX6_level_69 (by decide) ?_
              exact ih_29 (j_29 + 1) x2_29 (x3_29 + 1) (by rw [ex3_29, nI_1]) (by omega) (by omega) hR _ _ _ hP hS (lv_sub hl [2, 3, 1, 0] rfl)
            · rw [if_neg c16] at hR
              refine lv_iload_n hx hb dX6_level_47 rfl (lv_at hl 2 rfl) ?_
              refine lv_aload_n hx hb dX6_level_48 rfl (lv_at hl 0 rfl) ?_
              refine va_get (D := (dC, dI)) (ci := 6) (v := .ref (a 1)) (C := RX6) (T := TX6) (N := 15) hx hb hts hin6 hown hK hP 0 rfl rfl 1 (by decide) (hts (.fieldLink RX6 7 "FeedDeskModel" "s" "[I") (List.mem_of_getElem? (i := 1) rfl)) (fun _ h9 => h9) rfl dX6_level_49 ?_
              refine lv_bipush (v := 72) hx hb dX6_level_52 (by decide) ?_
              refine lv_iload_n hx hb dX6_level_54 rfl (lv_at hl 3 rfl) ?_
              refine lv_iadd hx hb dX6_level_55 ?_
              refine va_iald (f := R 0) hx hb hK hP 1 0 rfl rfl (by rw [ex3_29]; exact vp_of_B (ix_13 j_29 hj_29)) dX6_level_56 ?_
              refine lv_imul hx hb dX6_level_57 ?_
              refine lv_bipush (v := 100) hx hb dX6_level_58 (by decide) ?_
              refine lv_idiv hx hb dX6_level_60 (by decide) ?_
              refine lv_goto (tgt := 65) hx hb dX6_level_61 (by decide) ?_
              refine lv_istore_n (lv' := [(2, .int ((x2_29 * (R 0 (72 + x3_29).toNatClampNeg)) / 100)), (0, .ref (a 0)), (1, .int p1), (3, .int x3_29)]) hx hb dX6_level_65 rfl hl (by decide) rfl (fun ls hl => ?_)
              refine lv_iinc (v := x3_29 + 1) (lv' := [(3, .int (x3_29 + 1)), (2, .int ((x2_29 * (R 0 (72 + x3_29).toNatClampNeg)) / 100)), (0, .ref (a 0)), (1, .int p1)]) hx hb dX6_level_66 hl (k := 3) rfl rfl (by decide) rfl (fun ls hl => ?_)
              refine lv_goto (tgt := 29) hx hb dX6_level_69 (by decide) ?_
              exact ih_29 (j_29 + 1) ((x2_29 * (R 0 (72 + x3_29).toNatClampNeg)) / 100) (x3_29 + 1) (by rw [ex3_29, nI_1]) (by omega) (by omega) hR _ _ _ hP hS (lv_sub hl [2, 3, 1, 0] rfl)
      exact hL_29 5 0 (f_X6_of R p1 1) 0 (by decide +kernel) (by decide) (by decide) hR _ _ _ hP hS (lv_sub hl [2, 3, 1, 0] rfl)
    · rw [if_neg c7] at hR
      refine lv_iconst (v := 0) hx hb dX6_level_18 (by decide) ?_
      exact W.iret (v := 0) hx hb hr (fun t ht hWw => ⟨⟨0, (), rfl, hR.symm.trans eR, trivial⟩, hS.F ht⟩) hS.2.2 dX6_level_19
abbrev rm_X6_sendOf : Room := { frames := 0, cells := 0, slots := 0, locals := 0 }
def f_X6_sendOf (R : SR) (p1 : Int32) (p2 : Int32) : Int32 := R 0 ((88 + (12 * p1)) + p2).toNatClampNeg
theorem ix_14 : ∀ q0 : Nat, q0 < 4 → ∀ q1 : Nat, q1 < 12 → vp_okB ((88 + (12 * (nI q0))) + (nI q1)) 289 = true := by decide +kernel
set_option maxHeartbeats 4000000 in
set_option maxRecDepth 100000 in
theorem c_X6_sendOf (l : Launch) (dC : Nat → ClassId) (dI : Nat → Nat → Nat) (cI cC cS : ClassId) (a : Nat → Nat) (R : SR) (sz : Nat) (p1 : Int32) (p2 : Int32) (h1 : vp_in p1 4) (h2 : vp_in p2 12) : Met l yX6_sendOf wsX6_sendOf rm_X6_sendOf (PcG (dC, dI) (tyL cI cC cS) (cMd a cI R) sz [.ref (a 0), .int p1, .int p2]) (va_Qi (fun (r : Int32) (_ : Unit) => r = f_X6_sendOf R p1 p2) (fun _ _ => True) (va_A [] sz)) 0 0 (va_A [] sz) := by
  refine Met.ofW (cc := cX6_sendOf) (maxL := 3) (ret := (some .int)) (by decide) rfl ?_
  intro p e s m args below meth c s₁ B hml hv
  obtain ⟨rfl, hsz, hP, hK, hD0, hN⟩ := hv
  have hx := B.exec
  have hb := B.bytes
  have hr := B.returns
  have hts := atoms_spec (ws := wsX6_sendOf) B.pre
  have hown : s.vm.findClass RX6 = some m.cls := findClass_of_methodNamed B.named
  have hlocks := B.notSynchronized
  subst hsz
  have hA : ∀ q : Nat, s.heap.size ≤ q → (va_A [] s.heap.size) q := fun q h => Or.inr h
  have hS : va_S (va_A [] s.heap.size) s.heap s.heap [] := va_S.rf
  have hin6 : ∀ w ∈ wsX60, w ∈ wsX6_sendOf := fun _ h => List.mem_cons_of_mem _ (List.mem_append_right _ h)
  obtain ⟨ip1, hip1, ep1⟩ := vp_in_of h1 (by decide)
  obtain ⟨ip2, hip2, ep2⟩ := vp_in_of h2 (by decide)
  have hl := lv_entry [.ref (a 0), .int p1, .int p2] (n := 3) (Nat.le_of_ble_eq_true rfl)
  rw [lg_entry_eq]
  generalize (lg_sl [.ref (a 0), .int p1, .int p2] ++ List.replicate (3 - (lg_sl [.ref (a 0), .int p1, .int p2]).length) Slot.unset).toArray = ls at hl ⊢
  have hl : lv_has ls 3 [(0, .ref (a 0)), (1, .int p1), (2, .int p2)] := hl
  obtain ⟨R0, eR⟩ : ∃ z, z = f_X6_sendOf R p1 p2 := ⟨_, rfl⟩
  have hR := eR
  rw [f_X6_sendOf] at hR
  refine lv_aload_n hx hb dX6_sendOf_0 rfl (lv_at hl 0 rfl) ?_
  refine va_get (D := (dC, dI)) (ci := 6) (v := .ref (a 1)) (C := RX6) (T := TX6) (N := 15) hx hb hts hin6 hown hK hP 0 rfl rfl 1 (by decide) (hts (.fieldLink RX6 7 "FeedDeskModel" "s" "[I") (List.mem_of_getElem? (i := 1) rfl)) (fun _ h9 => h9) rfl dX6_sendOf_1 ?_
  refine lv_bipush (v := 88) hx hb dX6_sendOf_4 (by decide) ?_
  refine lv_bipush (v := 12) hx hb dX6_sendOf_6 (by decide) ?_
  refine lv_iload_n hx hb dX6_sendOf_8 rfl (lv_at hl 1 rfl) ?_
  refine lv_imul hx hb dX6_sendOf_9 ?_
  refine lv_iadd hx hb dX6_sendOf_10 ?_
  refine lv_iload_n hx hb dX6_sendOf_11 rfl (lv_at hl 2 rfl) ?_
  refine lv_iadd hx hb dX6_sendOf_12 ?_
  refine va_iald (f := R 0) hx hb hK hP 1 0 rfl rfl (by rw [ep1, ep2]; exact vp_of_B (ix_14 ip1 hip1 ip2 hip2)) dX6_sendOf_13 ?_
  exact W.iret (v := R 0 ((88 + (12 * p1)) + p2).toNatClampNeg) hx hb hr (fun t ht hWw => ⟨⟨R 0 ((88 + (12 * p1)) + p2).toNatClampNeg, (), rfl, hR.symm.trans eR, trivial⟩, hS.F ht⟩) hS.2.2 dX6_sendOf_14
abbrev rm_X6_gain : Room := { frames := 3, cells := 0, slots := 0, locals := 66 }
def f_X6_gain (R : SR) (p1 : Int32) (p2 : Int32) : Int32 := (if (f_X6_has (R 0 (80 + p1).toNatClampNeg) p2) = 0 then ((f_X6_level R p2) * (f_X6_sendOf R p1 p2)) / 100 else 0)
theorem ix_15 : ∀ q0 : Nat, q0 < 4 → vp_okB (80 + (nI q0)) 289 = true := by decide +kernel
set_option maxHeartbeats 4000000 in
set_option maxRecDepth 100000 in
theorem c_X6_gain (l : Launch) (dC : Nat → ClassId) (dI : Nat → Nat → Nat) (cI cC cS : ClassId) (a : Nat → Nat) (R : SR) (sz : Nat) (p1 : Int32) (p2 : Int32) (h1 : vp_in p1 4) (h2 : vp_in p2 12) : Met l yX6_gain wsX6_gain rm_X6_gain (PcG (dC, dI) (tyL cI cC cS) (cMd a cI R) sz [.ref (a 0), .int p1, .int p2]) (va_Qi (fun (r : Int32) (_ : Unit) => r = f_X6_gain R p1 p2) (fun _ _ => True) (va_A [] sz)) 0 0 (va_A [] sz) := by
  refine Met.ofW (cc := cX6_gain) (maxL := 3) (ret := (some .int)) (by decide) rfl ?_
  intro p e s m args below meth c s₁ B hml hv
  obtain ⟨rfl, hsz, hP, hK, hD0, hN⟩ := hv
  have hx := B.exec
  have hb := B.bytes
  have hr := B.returns
  have hts := atoms_spec (ws := wsX6_gain) B.pre
  have hown : s.vm.findClass RX6 = some m.cls := findClass_of_methodNamed B.named
  have hlocks := B.notSynchronized
  subst hsz
  have hA : ∀ q : Nat, s.heap.size ≤ q → (va_A [] s.heap.size) q := fun q h => Or.inr h
  have hS : va_S (va_A [] s.heap.size) s.heap s.heap [] := va_S.rf
  have hin6 : ∀ w ∈ wsX60, w ∈ wsX6_gain := fun _ h => List.mem_cons_of_mem _ (List.mem_append_right _ h)
  obtain ⟨ip1, hip1, ep1⟩ := vp_in_of h1 (by decide)
  have hl := lv_entry [.ref (a 0), .int p1, .int p2] (n := 3) (Nat.le_of_ble_eq_true rfl)
  rw [lg_entry_eq]
  generalize (lg_sl [.ref (a 0), .int p1, .int p2] ++ List.replicate (3 - (lg_sl [.ref (a 0), .int p1, .int p2]).length) Slot.unset).toArray = ls at hl ⊢
  have hl : lv_has ls 3 [(0, .ref (a 0)), (1, .int p1), (2, .int p2)] := hl
  obtain ⟨R0, eR⟩ : ∃ z, z = f_X6_gain R p1 p2 := ⟨_, rfl⟩
  have hR := eR
  rw [f_X6_gain] at hR
  refine lv_aload_n hx hb dX6_gain_0 rfl (lv_at hl 0 rfl) ?_
  refine va_get (D := (dC, dI)) (ci := 6) (v := .ref (a 1)) (C := RX6) (T := TX6) (N := 15) hx hb hts hin6 hown hK hP 0 rfl rfl 1 (by decide) (hts (.fieldLink RX6 7 "FeedDeskModel" "s" "[I") (List.mem_of_getElem? (i := 1) rfl)) (fun _ h9 => h9) rfl dX6_gain_1 ?_
  refine lv_bipush (v := 80) hx hb dX6_gain_4 (by decide) ?_
  refine lv_iload_n hx hb dX6_gain_6 rfl (lv_at hl 1 rfl) ?_
  refine lv_iadd hx hb dX6_gain_7 ?_
  refine va_iald (f := R 0) hx hb hK hP 1 0 rfl rfl (by rw [ep1]; exact vp_of_B (ix_15 ip1 hip1)) dX6_gain_8 ?_
  refine lv_iload_n hx hb dX6_gain_9 rfl (lv_at hl 2 rfl) ?_
  have hFc : ∀ q : Nat, va_A [] s.heap.size q → (va_A [] s.heap.size) q := roF hS hA
  refine va_calli (va_runS (As := [.int (R 0 (80 + p1).toNatClampNeg), .int p2]) (rest := []) ⟨hx, hb, hml, hown, hts⟩ (c_X6_has l dC dI cI cC cS s.heap.size (R 0 (80 + p1).toNatClampNeg) p2) (va_cwS 2 hts gX6_gain_X6_has rfl rfl rfl (by decide +kernel) ⟨Nat.le_of_ble_eq_true rfl, Nat.le_of_ble_eq_true rfl⟩) (pS hK (va_P_nil) (va_D_nil) hN) rfl rfl hl.1 rfl (lv_room (Nat.le_of_ble_eq_true rfl)) dX6_gain_10 ⟨Nat.le_of_ble_eq_true rfl, Nat.le_of_ble_eq_true rfl⟩) hS (fun q _ h => hFc q h) hFc (fun r_1 u_1 t_1 H2 locs ht hvm hw hB hz1 hk1 hS => ?_)
  obtain ⟨hw, hre3⟩ := hw
  subst hw
  have hP := ro_keep hP hk1
  refine lv_if_eq (tgt := 20) hx hb dX6_gain_13 (by decide) (fun c4 => ?_) (fun c4 => ?_)
  · rw [if_pos c4] at hR
    refine lv_aload_n hx hb dX6_gain_20 rfl (lv_at hl 0 rfl) ?_
    refine lv_iload_n hx hb dX6_gain_21 rfl (lv_at hl 2 rfl) ?_
    have hPc : va_P (dC, dI) vwCl (cMd a cI R) H2 := hP.sub [0, 1, 2, 3, 4, 5, 6] rfl
    have hDc : va_D (fun _ => True) (cMd a cI R) := hD0.sub [0, 1, 2, 3, 4, 5, 6] (by decide) rfl
    have hFc : ∀ q : Nat, va_A [] H2.size q → (va_A [] s.heap.size) q := roF hS hA
    refine va_calli (va_runV (As := [.int p2]) (rest := []) ⟨hx, hb, hml, hown, hts⟩ (c_X6_level l dC dI cI cC cS a R H2.size p2 h2) (cwV 1 hts gX6_gain_X6_level rfl rfl rfl (by decide +kernel) ⟨Nat.le_of_ble_eq_true rfl, Nat.le_of_ble_eq_true rfl⟩) (pV (q0 := 0) hK hPc hDc hN rfl rfl) rfl rfl hl.1 rfl (lv_room (Nat.le_of_ble_eq_true rfl)) dX6_gain_22 ⟨Nat.le_of_ble_eq_true rfl, Nat.le_of_ble_eq_true rfl⟩) hS (fun q _ h => hFc q h) hFc (fun r_5 u_5 t_5 H6 locs ht hvm hw hB hz1 hk1 hS => ?_)
    subst hw
    have hP := ro_keep hP hk1
    refine lv_aload_n hx hb dX6_gain_25 rfl (lv_at hl 0 rfl) ?_
    refine lv_iload_n hx hb dX6_gain_26 rfl (lv_at hl 1 rfl) ?_
    refine lv_iload_n hx hb dX6_gain_27 rfl (lv_at hl 2 rfl) ?_
    have hPc : va_P (dC, dI) vwCl (cMd a cI R) H6 := hP.sub [0, 1, 2, 3, 4, 5, 6] rfl
    have hDc : va_D (fun _ => True) (cMd a cI R) := hD0.sub [0, 1, 2, 3, 4, 5, 6] (by decide) rfl
    have hFc : ∀ q : Nat, va_A [] H6.size q → (va_A [] s.heap.size) q := roF hS hA
    refine va_calli (va_runV (As := [.int p1, .int p2]) (rest := [.int (f_X6_level R p2)]) ⟨hx, hb, hml, hown, hts⟩ (c_X6_sendOf l dC dI cI cC cS a R H6.size p1 p2 h1 h2) (cwV 2 hts gX6_gain_X6_sendOf rfl rfl rfl (by decide +kernel) ⟨Nat.le_of_ble_eq_true rfl, Nat.le_of_ble_eq_true rfl⟩) (pV (q0 := 0) hK hPc hDc hN rfl rfl) rfl rfl hl.1 rfl (lv_room (Nat.le_of_ble_eq_true rfl)) dX6_gain_28 ⟨Nat.le_of_ble_eq_true rfl, Nat.le_of_ble_eq_true rfl⟩) hS (fun q _ h => hFc q h) hFc (fun r_7 u_7 t_7 H8 locs ht hvm hw hB hz1 hk1 hS => ?_)
    subst hw
    have hP := ro_keep hP hk1
    refine lv_imul hx hb dX6_gain_31 ?_
    refine lv_bipush (v := 100) hx hb dX6_gain_32 (by decide) ?_
    refine lv_idiv hx hb dX6_gain_34 (by decide) ?_
    exact W.iret (v := ((f_X6_level R p2) * (f_X6_sendOf R p1 p2)) / 100) hx hb hr (fun t ht hWw => ⟨⟨((f_X6_level R p2) * (f_X6_sendOf R p1 p2)) / 100, (), rfl, hR.symm.trans eR, trivial⟩, hS.F ht⟩) hS.2.2 dX6_gain_35
  · rw [if_neg c4] at hR
    refine lv_iconst (v := 0) hx hb dX6_gain_16 (by decide) ?_
    refine lv_goto (tgt := 35) hx hb dX6_gain_17 (by decide) ?_
    exact W.iret (v := 0) hx hb hr (fun t ht hWw => ⟨⟨0, (), rfl, hR.symm.trans eR, trivial⟩, hS.F ht⟩) hS.2.2 dX6_gain_35
abbrev rm_X6_backInto : Room := { frames := 0, cells := 0, slots := 0, locals := 0 }
def f_X6_backInto_p2 (R : SR) (p1 : Int32)  : Nat → Int32 → Int32
  | 0, _ => 0
  | n_2 + 1, x2_2 => (if 4 ≤ x2_2 then (-99) else (if (R 0 (84 + x2_2).toNatClampNeg) = p1 then x2_2 else (f_X6_backInto_p2 R p1 n_2) (x2_2 + 1)))
def f_X6_backInto (R : SR) (p1 : Int32) : Int32 := f_X6_backInto_p2 R p1 5 0
theorem ix_16 : ∀ q0 : Nat, q0 < 4 → vp_okB (84 + (nI q0)) 289 = true := by decide +kernel
set_option maxHeartbeats 4000000 in
set_option maxRecDepth 100000 in
theorem c_X6_backInto (l : Launch) (dC : Nat → ClassId) (dI : Nat → Nat → Nat) (cI cC cS : ClassId) (a : Nat → Nat) (R : SR) (sz : Nat) (p1 : Int32)  : Met l yX6_backInto wsX6_backInto rm_X6_backInto (PcG (dC, dI) (tyL cI cC cS) (cMd a cI R) sz [.ref (a 0), .int p1]) (va_Qi (fun (r : Int32) (_ : Unit) => r = f_X6_backInto R p1 ∧ (r = (-99) ∨ vp_in r 4)) (fun _ _ => True) (va_A [] sz)) 0 0 (va_A [] sz) := by
  refine Met.ofW (cc := cX6_backInto) (maxL := 3) (ret := (some .int)) (by decide) rfl ?_
  intro p e s m args below meth c s₁ B hml hv
  obtain ⟨rfl, hsz, hP, hK, hD0, hN⟩ := hv
  have hx := B.exec
  have hb := B.bytes
  have hr := B.returns
  have hts := atoms_spec (ws := wsX6_backInto) B.pre
  have hown : s.vm.findClass RX6 = some m.cls := findClass_of_methodNamed B.named
  have hlocks := B.notSynchronized
  subst hsz
  have hA : ∀ q : Nat, s.heap.size ≤ q → (va_A [] s.heap.size) q := fun q h => Or.inr h
  have hS : va_S (va_A [] s.heap.size) s.heap s.heap [] := va_S.rf
  have hin6 : ∀ w ∈ wsX60, w ∈ wsX6_backInto := fun _ h => List.mem_cons_of_mem _ (List.mem_append_right _ h)
  have hl := lv_entry [.ref (a 0), .int p1] (n := 3) (Nat.le_of_ble_eq_true rfl)
  rw [lg_entry_eq]
  generalize (lg_sl [.ref (a 0), .int p1] ++ List.replicate (3 - (lg_sl [.ref (a 0), .int p1]).length) Slot.unset).toArray = ls at hl ⊢
  have hl : lv_has ls 3 [(0, .ref (a 0)), (1, .int p1)] := hl
  obtain ⟨R0, eR⟩ : ∃ z, z = f_X6_backInto R p1 := ⟨_, rfl⟩
  have hR := eR
  rw [f_X6_backInto] at hR
  refine lv_iconst (v := 0) hx hb dX6_backInto_0 (by decide) ?_
  refine lv_istore_n (lv' := [(2, .int 0), (0, .ref (a 0)), (1, .int p1)]) hx hb dX6_backInto_1 rfl hl (by decide) rfl (fun ls hl => ?_)
  have hL_2 : ∀ n_2 : Nat, ∀ (j_2 : Nat), ∀ (x2_2 : Int32) , x2_2 = nI j_2 → j_2 ≤ 4 → 4 < j_2 + n_2 → R0 = f_X6_backInto_p2 R p1 n_2 x2_2 → ∀ (H : Heap) (locs : List Loc) (ls : Array Slot), va_P (dC, dI) vwCl (cMd a cI R) H → va_S (va_A [] s.heap.size) s.heap H locs → lv_has ls 3 [(0, .ref (a 0)), (1, .int p1), (2, .int x2_2)] → W p l e (headSpec wsX6_backInto rm_X6_backInto).room s m ([.ref (a 0), .int p1] : List Value).toArray below meth c H locs 0 0 (MQ below (va_Qi (fun (r : Int32) (_ : Unit) => r = f_X6_backInto R p1 ∧ (r = (-99) ∨ vp_in r 4)) (fun _ _ => True) (va_A [] s.heap.size)) ([.ref (a 0), .int p1] : List Value).toArray s 0 0 (va_A [] s.heap.size)) (F0 m 2 ls []) := by
    intro n_2
    induction n_2 with
    | zero =>
      intro j_2 x2_2 ex2_2 hj0_2 hn_2
      exact absurd hn_2 (by omega)
    | succ n_2 ih_2 =>
      intro j_2 x2_2 ex2_2 hj0_2 hn_2 hR H locs ls hP hS hl
      rw [f_X6_backInto_p2] at hR
      refine lv_iload_n hx hb dX6_backInto_2 rfl (lv_at hl 2 rfl) ?_
      refine lv_iconst (v := 4) hx hb dX6_backInto_3 (by decide) ?_
      refine lv_icmp_ge (tgt := 28) hx hb dX6_backInto_4 (by decide) (fun c1 => ?_) (fun c1 => ?_)
      · rw [if_pos c1] at hR
        refine lv_bipush (v := (-99)) hx hb dX6_backInto_28 (by decide) ?_
        exact W.iret (v := (-99)) hx hb hr (fun t ht hWw => ⟨⟨(-99), (), rfl, ⟨hR.symm.trans eR, (Or.inl rfl)⟩, trivial⟩, hS.F ht⟩) hS.2.2 dX6_backInto_30
      · rw [if_neg c1] at hR
        have hj_2 : j_2 < 4 := lp_ge ex2_2 (by decide +kernel) (by omega) (by omega) c1
        refine lv_aload_n hx hb dX6_backInto_7 rfl (lv_at hl 0 rfl) ?_
        refine va_get (D := (dC, dI)) (ci := 6) (v := .ref (a 1)) (C := RX6) (T := TX6) (N := 15) hx hb hts hin6 hown hK hP 0 rfl rfl 1 (by decide) (hts (.fieldLink RX6 7 "FeedDeskModel" "s" "[I") (List.mem_of_getElem? (i := 1) rfl)) (fun _ h9 => h9) rfl dX6_backInto_8 ?_
        refine lv_bipush (v := 84) hx hb dX6_backInto_11 (by decide) ?_
        refine lv_iload_n hx hb dX6_backInto_13 rfl (lv_at hl 2 rfl) ?_
        refine lv_iadd hx hb dX6_backInto_14 ?_
        refine va_iald (f := R 0) hx hb hK hP 1 0 rfl rfl (by rw [ex2_2]; exact vp_of_B (ix_16 j_2 hj_2)) dX6_backInto_15 ?_
        refine lv_iload_n hx hb dX6_backInto_16 rfl (lv_at hl 1 rfl) ?_
        refine lv_icmp_ne (tgt := 22) hx hb dX6_backInto_17 (by decide) (fun c2 => ?_) (fun c2 => ?_)
        · rw [if_neg c2] at hR
          refine lv_iinc (v := x2_2 + 1) (lv' := [(2, .int (x2_2 + 1)), (0, .ref (a 0)), (1, .int p1)]) hx hb dX6_backInto_22 hl (k := 2) rfl rfl (by decide) rfl (fun ls hl => ?_)
          refine lv_goto (tgt := 2) hx hb dX6_backInto_25 (by decide) ?_
          exact ih_2 (j_2 + 1) (x2_2 + 1) (by rw [ex2_2, nI_1]) (by omega) (by omega) hR _ _ _ hP hS (lv_sub hl [1, 2, 0] rfl)
        · rw [if_pos c2] at hR
          refine lv_iload_n hx hb dX6_backInto_20 rfl (lv_at hl 2 rfl) ?_
          exact W.iret (v := x2_2) hx hb hr (fun t ht hWw => ⟨⟨x2_2, (), rfl, ⟨hR.symm.trans eR, (Or.inr (by rw [ex2_2]; exact vp_of_B (ix_2 j_2 hj_2)))⟩, trivial⟩, hS.F ht⟩) hS.2.2 dX6_backInto_21
  exact hL_2 5 0 0 (by decide +kernel) (by decide) (by decide) hR _ _ _ hP hS (lv_sub hl [1, 2, 0] rfl)
abbrev rm_X6_isTouched : Room := { frames := 1, cells := 0, slots := 0, locals := 21 }
def f_X6_isTouched (R : SR) (p1 : Int32) : Int32 := (if 12 ≤ p1 then f_X6_has (R 0 180) (p1 - 12) else f_X6_has (R 0 179) p1)
set_option maxHeartbeats 4000000 in
set_option maxRecDepth 100000 in
theorem c_X6_isTouched (l : Launch) (dC : Nat → ClassId) (dI : Nat → Nat → Nat) (cI cC cS : ClassId) (a : Nat → Nat) (R : SR) (sz : Nat) (p1 : Int32)  : Met l yX6_isTouched wsX6_isTouched rm_X6_isTouched (PcG (dC, dI) (tyL cI cC cS) (cMd a cI R) sz [.ref (a 0), .int p1]) (va_Qi (fun (r : Int32) (_ : Unit) => r = f_X6_isTouched R p1 ∧ (r = 0 ∨ r = 1)) (fun _ _ => True) (va_A [] sz)) 0 0 (va_A [] sz) := by
  refine Met.ofW (cc := cX6_isTouched) (maxL := 2) (ret := (some .boolean)) (by decide) rfl ?_
  intro p e s m args below meth c s₁ B hml hv
  obtain ⟨rfl, hsz, hP, hK, hD0, hN⟩ := hv
  have hx := B.exec
  have hb := B.bytes
  have hr := B.returns
  have hts := atoms_spec (ws := wsX6_isTouched) B.pre
  have hown : s.vm.findClass RX6 = some m.cls := findClass_of_methodNamed B.named
  have hlocks := B.notSynchronized
  subst hsz
  have hA : ∀ q : Nat, s.heap.size ≤ q → (va_A [] s.heap.size) q := fun q h => Or.inr h
  have hS : va_S (va_A [] s.heap.size) s.heap s.heap [] := va_S.rf
  have hin6 : ∀ w ∈ wsX60, w ∈ wsX6_isTouched := fun _ h => List.mem_cons_of_mem _ (List.mem_append_right _ h)
  have hl := lv_entry [.ref (a 0), .int p1] (n := 2) (Nat.le_of_ble_eq_true rfl)
  rw [lg_entry_eq]
  generalize (lg_sl [.ref (a 0), .int p1] ++ List.replicate (2 - (lg_sl [.ref (a 0), .int p1]).length) Slot.unset).toArray = ls at hl ⊢
  have hl : lv_has ls 2 [(0, .ref (a 0)), (1, .int p1)] := hl
  obtain ⟨R0, eR⟩ : ∃ z, z = f_X6_isTouched R p1 := ⟨_, rfl⟩
  have hR := eR
  rw [f_X6_isTouched] at hR
  refine lv_iload_n hx hb dX6_isTouched_0 rfl (lv_at hl 1 rfl) ?_
  refine lv_bipush (v := 12) hx hb dX6_isTouched_1 (by decide) ?_
  refine lv_icmp_ge (tgt := 21) hx hb dX6_isTouched_3 (by decide) (fun c1 => ?_) (fun c1 => ?_)
  · rw [if_pos c1] at hR
    refine lv_aload_n hx hb dX6_isTouched_21 rfl (lv_at hl 0 rfl) ?_
    refine va_get (D := (dC, dI)) (ci := 6) (v := .ref (a 1)) (C := RX6) (T := TX6) (N := 15) hx hb hts hin6 hown hK hP 0 rfl rfl 1 (by decide) (hts (.fieldLink RX6 7 "FeedDeskModel" "s" "[I") (List.mem_of_getElem? (i := 1) rfl)) (fun _ h9 => h9) rfl dX6_isTouched_22 ?_
    refine lv_sipush (v := 180) hx hb dX6_isTouched_25 (by decide) ?_
    refine va_iald (f := R 0) hx hb hK hP 1 0 rfl rfl (vp_of_B (by decide +kernel : vp_okB (180) 289 = true)) dX6_isTouched_28 ?_
    refine lv_eqi (y := R 0 180) rfl ?_
    refine lv_iload_n hx hb dX6_isTouched_29 rfl (lv_at hl 1 rfl) ?_
    refine lv_bipush (v := 12) hx hb dX6_isTouched_30 (by decide) ?_
    refine lv_isub hx hb dX6_isTouched_32 ?_
    have hFc : ∀ q : Nat, va_A [] s.heap.size q → (va_A [] s.heap.size) q := roF hS hA
    refine va_calli (va_runS (As := [.int (R 0 180), .int (p1 - 12)]) (rest := []) ⟨hx, hb, hml, hown, hts⟩ (c_X6_has l dC dI cI cC cS s.heap.size (R 0 180) (p1 - 12)) (va_cwS 2 hts gX6_isTouched_X6_has rfl rfl rfl (by decide +kernel) ⟨Nat.le_of_ble_eq_true rfl, Nat.le_of_ble_eq_true rfl⟩) (pS hK (va_P_nil) (va_D_nil) hN) rfl rfl hl.1 rfl (lv_room (Nat.le_of_ble_eq_true rfl)) dX6_isTouched_33 ⟨Nat.le_of_ble_eq_true rfl, Nat.le_of_ble_eq_true rfl⟩) hS (fun q _ h => hFc q h) hFc (fun r_2 u_2 t_2 H3 locs ht hvm hw hB hz1 hk1 hS => ?_)
    obtain ⟨hw, hre4⟩ := hw
    subst hw
    have hP := ro_keep hP hk1
    exact W.zret (v := f_X6_has (R 0 180) (p1 - 12)) hx hb hr (nar_bool hre4) (fun t ht hWw => ⟨⟨f_X6_has (R 0 180) (p1 - 12), (), rfl, ⟨hR.symm.trans eR, hre4⟩, trivial⟩, hS.F ht⟩) hS.2.2 dX6_isTouched_36
  · rw [if_neg c1] at hR
    refine lv_aload_n hx hb dX6_isTouched_6 rfl (lv_at hl 0 rfl) ?_
    refine va_get (D := (dC, dI)) (ci := 6) (v := .ref (a 1)) (C := RX6) (T := TX6) (N := 15) hx hb hts hin6 hown hK hP 0 rfl rfl 1 (by decide) (hts (.fieldLink RX6 7 "FeedDeskModel" "s" "[I") (List.mem_of_getElem? (i := 1) rfl)) (fun _ h9 => h9) rfl dX6_isTouched_7 ?_
    refine lv_sipush (v := 179) hx hb dX6_isTouched_10 (by decide) ?_
    refine va_iald (f := R 0) hx hb hK hP 1 0 rfl rfl (vp_of_B (by decide +kernel : vp_okB (179) 289 = true)) dX6_isTouched_13 ?_
    refine lv_eqi (y := R 0 179) rfl ?_
    refine lv_iload_n hx hb dX6_isTouched_14 rfl (lv_at hl 1 rfl) ?_
    have hFc : ∀ q : Nat, va_A [] s.heap.size q → (va_A [] s.heap.size) q := roF hS hA
    refine va_calli (va_runS (As := [.int (R 0 179), .int p1]) (rest := []) ⟨hx, hb, hml, hown, hts⟩ (c_X6_has l dC dI cI cC cS s.heap.size (R 0 179) p1) (va_cwS 2 hts gX6_isTouched_X6_has rfl rfl rfl (by decide +kernel) ⟨Nat.le_of_ble_eq_true rfl, Nat.le_of_ble_eq_true rfl⟩) (pS hK (va_P_nil) (va_D_nil) hN) rfl rfl hl.1 rfl (lv_room (Nat.le_of_ble_eq_true rfl)) dX6_isTouched_15 ⟨Nat.le_of_ble_eq_true rfl, Nat.le_of_ble_eq_true rfl⟩) hS (fun q _ h => hFc q h) hFc (fun r_5 u_5 t_5 H6 locs ht hvm hw hB hz1 hk1 hS => ?_)
    obtain ⟨hw, hre7⟩ := hw
    subst hw
    have hP := ro_keep hP hk1
    refine lv_goto (tgt := 36) hx hb dX6_isTouched_18 (by decide) ?_
    exact W.zret (v := f_X6_has (R 0 179) p1) hx hb hr (nar_bool hre7) (fun t ht hWw => ⟨⟨f_X6_has (R 0 179) p1, (), rfl, ⟨hR.symm.trans eR, hre7⟩, trivial⟩, hS.F ht⟩) hS.2.2 dX6_isTouched_36
abbrev rm_X6_muted : Room := { frames := 1, cells := 0, slots := 0, locals := 22 }
def f_X6_muted_p4 (R : SR)  : Nat → Int32 → Int32 → Int32
  | 0, _, _ => 0
  | n_4 + 1, x1_4, x2_4 => (if 12 ≤ x2_4 then x1_4 else (f_X6_muted_p4 R n_4) (x1_4 ||| ((f_X6_of R x2_4 2) <<< (x2_4 &&& 31))) (x2_4 + 1))
def f_X6_muted (R : SR)  : Int32 := f_X6_muted_p4 R 13 0 0
set_option maxHeartbeats 4000000 in
set_option maxRecDepth 100000 in
theorem c_X6_muted (l : Launch) (dC : Nat → ClassId) (dI : Nat → Nat → Nat) (cI cC cS : ClassId) (a : Nat → Nat) (R : SR) (sz : Nat)   : Met l yX6_muted wsX6_muted rm_X6_muted (PcG (dC, dI) (tyL cI cC cS) (cMd a cI R) sz [.ref (a 0)]) (va_Qi (fun (r : Int32) (_ : Unit) => r = f_X6_muted R) (fun _ _ => True) (va_A [] sz)) 0 0 (va_A [] sz) := by
  refine Met.ofW (cc := cX6_muted) (maxL := 3) (ret := (some .int)) (by decide) rfl ?_
  intro p e s m args below meth c s₁ B hml hv
  obtain ⟨rfl, hsz, hP, hK, hD0, hN⟩ := hv
  have hx := B.exec
  have hb := B.bytes
  have hr := B.returns
  have hts := atoms_spec (ws := wsX6_muted) B.pre
  have hown : s.vm.findClass RX6 = some m.cls := findClass_of_methodNamed B.named
  have hlocks := B.notSynchronized
  subst hsz
  have hA : ∀ q : Nat, s.heap.size ≤ q → (va_A [] s.heap.size) q := fun q h => Or.inr h
  have hS : va_S (va_A [] s.heap.size) s.heap s.heap [] := va_S.rf
  have hl := lv_entry [.ref (a 0)] (n := 3) (Nat.le_of_ble_eq_true rfl)
  rw [lg_entry_eq]
  generalize (lg_sl [.ref (a 0)] ++ List.replicate (3 - (lg_sl [.ref (a 0)]).length) Slot.unset).toArray = ls at hl ⊢
  have hl : lv_has ls 3 [(0, .ref (a 0))] := hl
  obtain ⟨R0, eR⟩ : ∃ z, z = f_X6_muted R := ⟨_, rfl⟩
  have hR := eR
  rw [f_X6_muted] at hR
  refine lv_iconst (v := 0) hx hb dX6_muted_0 (by decide) ?_
  refine lv_istore_n (lv' := [(1, .int 0), (0, .ref (a 0))]) hx hb dX6_muted_1 rfl hl (by decide) rfl (fun ls hl => ?_)
  refine lv_iconst (v := 0) hx hb dX6_muted_2 (by decide) ?_
  refine lv_istore_n (lv' := [(2, .int 0), (1, .int 0), (0, .ref (a 0))]) hx hb dX6_muted_3 rfl hl (by decide) rfl (fun ls hl => ?_)
  have hL_4 : ∀ n_4 : Nat, ∀ (j_4 : Nat), ∀ (x1_4 : Int32) (x2_4 : Int32) , x2_4 = nI j_4 → j_4 ≤ 12 → 12 < j_4 + n_4 → R0 = f_X6_muted_p4 R n_4 x1_4 x2_4 → ∀ (H : Heap) (locs : List Loc) (ls : Array Slot), va_P (dC, dI) vwCl (cMd a cI R) H → va_S (va_A [] s.heap.size) s.heap H locs → lv_has ls 3 [(0, .ref (a 0)), (1, .int x1_4), (2, .int x2_4)] → W p l e (headSpec wsX6_muted rm_X6_muted).room s m ([.ref (a 0)] : List Value).toArray below meth c H locs 0 0 (MQ below (va_Qi (fun (r : Int32) (_ : Unit) => r = f_X6_muted R) (fun _ _ => True) (va_A [] s.heap.size)) ([.ref (a 0)] : List Value).toArray s 0 0 (va_A [] s.heap.size)) (F0 m 4 ls []) := by
    intro n_4
    induction n_4 with
    | zero =>
      intro j_4 x1_4 x2_4 ex2_4 hj0_4 hn_4
      exact absurd hn_4 (by omega)
    | succ n_4 ih_4 =>
      intro j_4 x1_4 x2_4 ex2_4 hj0_4 hn_4 hR H locs ls hP hS hl
      rw [f_X6_muted_p4] at hR
      refine lv_iload_n hx hb dX6_muted_4 rfl (lv_at hl 2 rfl) ?_
      refine lv_bipush (v := 12) hx hb dX6_muted_5 (by decide) ?_
      refine lv_icmp_ge (tgt := 27) hx hb dX6_muted_7 (by decide) (fun c1 => ?_) (fun c1 => ?_)
      · rw [if_pos c1] at hR
        refine lv_iload_n hx hb dX6_muted_27 rfl (lv_at hl 1 rfl) ?_
        exact W.iret (v := x1_4) hx hb hr (fun t ht hWw => ⟨⟨x1_4, (), rfl, hR.symm.trans eR, trivial⟩, hS.F ht⟩) hS.2.2 dX6_muted_28
      · rw [if_neg c1] at hR
        have hj_4 : j_4 < 12 := lp_ge ex2_4 (by decide +kernel) (by omega) (by omega) c1
        refine lv_iload_n hx hb dX6_muted_10 rfl (lv_at hl 1 rfl) ?_
        refine lv_aload_n hx hb dX6_muted_11 rfl (lv_at hl 0 rfl) ?_
        refine lv_iload_n hx hb dX6_muted_12 rfl (lv_at hl 2 rfl) ?_
        refine lv_iconst (v := 2) hx hb dX6_muted_13 (by decide) ?_
        have hPc : va_P (dC, dI) vwCl (cMd a cI R) H := hP.sub [0, 1, 2, 3, 4, 5, 6] rfl
        have hDc : va_D (fun _ => True) (cMd a cI R) := hD0.sub [0, 1, 2, 3, 4, 5, 6] (by decide) rfl
        have hFc : ∀ q : Nat, va_A [] H.size q → (va_A [] s.heap.size) q := roF hS hA
        refine va_calli (va_runV (As := [.int x2_4, .int 2]) (rest := [.int x1_4]) ⟨hx, hb, hml, hown, hts⟩ (c_X6_of l dC dI cI cC cS a R H.size x2_4 2 (by rw [ex2_4]; exact vp_of_B (ix_1 j_4 hj_4)) (vp_of_B (by decide +kernel : vp_okB (2) 5 = true))) (cwV 2 hts gX6_muted_X6_of rfl rfl rfl (by decide +kernel) ⟨Nat.le_of_ble_eq_true rfl, Nat.le_of_ble_eq_true rfl⟩) (pV (q0 := 0) hK hPc hDc hN rfl rfl) rfl rfl hl.1 rfl (lv_room (Nat.le_of_ble_eq_true rfl)) dX6_muted_14 ⟨Nat.le_of_ble_eq_true rfl, Nat.le_of_ble_eq_true rfl⟩) hS (fun q _ h => hFc q h) hFc (fun r_2 u_2 t_2 H3 locs ht hvm hw hB hz1 hk1 hS => ?_)
        subst hw
        have hP := ro_keep hP hk1
        refine lv_iload_n hx hb dX6_muted_17 rfl (lv_at hl 2 rfl) ?_
        refine lv_ishl hx hb dX6_muted_18 ?_
        refine lv_ior hx hb dX6_muted_19 ?_
        refine lv_istore_n (lv' := [(1, .int (x1_4 ||| ((f_X6_of R x2_4 2) <<< (x2_4 &&& 31)))), (0, .ref (a 0)), (2, .int x2_4)]) hx hb dX6_muted_20 rfl hl (by decide) rfl (fun ls hl => ?_)
        refine lv_iinc (v := x2_4 + 1) (lv' := [(2, .int (x2_4 + 1)), (1, .int (x1_4 ||| ((f_X6_of R x2_4 2) <<< (x2_4 &&& 31)))), (0, .ref (a 0))]) hx hb dX6_muted_21 hl (k := 2) rfl rfl (by decide) rfl (fun ls hl => ?_)
        refine lv_goto (tgt := 4) hx hb dX6_muted_24 (by decide) ?_
        exact ih_4 (j_4 + 1) (x1_4 ||| ((f_X6_of R x2_4 2) <<< (x2_4 &&& 31))) (x2_4 + 1) (by rw [ex2_4, nI_1]) (by omega) (by omega) hR _ _ _ hP hS (lv_sub hl [2, 1, 0] rfl)
  exact hL_4 13 0 0 0 (by decide +kernel) (by decide) (by decide) hR _ _ _ hP hS (lv_sub hl [2, 1, 0] rfl)
abbrev rm_X6_scenes : Room := { frames := 0, cells := 0, slots := 0, locals := 0 }
def f_X6_scenes_p4 (R : SR)  : Nat → Int32 → Int32 → Int32
  | 0, _, _ => 0
  | n_4 + 1, x1_4, x2_4 => (if 6 ≤ x2_4 then x1_4 else (f_X6_scenes_p4 R n_4) (x1_4 + (R 0 (181 + (18 * x2_4)).toNatClampNeg)) (x2_4 + 1))
def f_X6_scenes (R : SR)  : Int32 := f_X6_scenes_p4 R 7 0 0
theorem ix_17 : ∀ q0 : Nat, q0 < 6 → vp_okB (181 + (18 * (nI q0))) 289 = true := by decide +kernel
set_option maxHeartbeats 4000000 in
set_option maxRecDepth 100000 in
theorem c_X6_scenes (l : Launch) (dC : Nat → ClassId) (dI : Nat → Nat → Nat) (cI cC cS : ClassId) (a : Nat → Nat) (R : SR) (sz : Nat)   : Met l yX6_scenes wsX6_scenes rm_X6_scenes (PcG (dC, dI) (tyL cI cC cS) (cMd a cI R) sz [.ref (a 0)]) (va_Qi (fun (r : Int32) (_ : Unit) => r = f_X6_scenes R) (fun _ _ => True) (va_A [] sz)) 0 0 (va_A [] sz) := by
  refine Met.ofW (cc := cX6_scenes) (maxL := 3) (ret := (some .int)) (by decide) rfl ?_
  intro p e s m args below meth c s₁ B hml hv
  obtain ⟨rfl, hsz, hP, hK, hD0, hN⟩ := hv
  have hx := B.exec
  have hb := B.bytes
  have hr := B.returns
  have hts := atoms_spec (ws := wsX6_scenes) B.pre
  have hown : s.vm.findClass RX6 = some m.cls := findClass_of_methodNamed B.named
  have hlocks := B.notSynchronized
  subst hsz
  have hA : ∀ q : Nat, s.heap.size ≤ q → (va_A [] s.heap.size) q := fun q h => Or.inr h
  have hS : va_S (va_A [] s.heap.size) s.heap s.heap [] := va_S.rf
  have hin6 : ∀ w ∈ wsX60, w ∈ wsX6_scenes := fun _ h => List.mem_cons_of_mem _ (List.mem_append_right _ h)
  have hl := lv_entry [.ref (a 0)] (n := 3) (Nat.le_of_ble_eq_true rfl)
  rw [lg_entry_eq]
  generalize (lg_sl [.ref (a 0)] ++ List.replicate (3 - (lg_sl [.ref (a 0)]).length) Slot.unset).toArray = ls at hl ⊢
  have hl : lv_has ls 3 [(0, .ref (a 0))] := hl
  obtain ⟨R0, eR⟩ : ∃ z, z = f_X6_scenes R := ⟨_, rfl⟩
  have hR := eR
  rw [f_X6_scenes] at hR
  refine lv_iconst (v := 0) hx hb dX6_scenes_0 (by decide) ?_
  refine lv_istore_n (lv' := [(1, .int 0), (0, .ref (a 0))]) hx hb dX6_scenes_1 rfl hl (by decide) rfl (fun ls hl => ?_)
  refine lv_iconst (v := 0) hx hb dX6_scenes_2 (by decide) ?_
  refine lv_istore_n (lv' := [(2, .int 0), (1, .int 0), (0, .ref (a 0))]) hx hb dX6_scenes_3 rfl hl (by decide) rfl (fun ls hl => ?_)
  have hL_4 : ∀ n_4 : Nat, ∀ (j_4 : Nat), ∀ (x1_4 : Int32) (x2_4 : Int32) , x2_4 = nI j_4 → j_4 ≤ 6 → 6 < j_4 + n_4 → R0 = f_X6_scenes_p4 R n_4 x1_4 x2_4 → ∀ (H : Heap) (locs : List Loc) (ls : Array Slot), va_P (dC, dI) vwCl (cMd a cI R) H → va_S (va_A [] s.heap.size) s.heap H locs → lv_has ls 3 [(0, .ref (a 0)), (1, .int x1_4), (2, .int x2_4)] → W p l e (headSpec wsX6_scenes rm_X6_scenes).room s m ([.ref (a 0)] : List Value).toArray below meth c H locs 0 0 (MQ below (va_Qi (fun (r : Int32) (_ : Unit) => r = f_X6_scenes R) (fun _ _ => True) (va_A [] s.heap.size)) ([.ref (a 0)] : List Value).toArray s 0 0 (va_A [] s.heap.size)) (F0 m 4 ls []) := by
    intro n_4
    induction n_4 with
    | zero =>
      intro j_4 x1_4 x2_4 ex2_4 hj0_4 hn_4
      exact absurd hn_4 (by omega)
    | succ n_4 ih_4 =>
      intro j_4 x1_4 x2_4 ex2_4 hj0_4 hn_4 hR H locs ls hP hS hl
      rw [f_X6_scenes_p4] at hR
      refine lv_iload_n hx hb dX6_scenes_4 rfl (lv_at hl 2 rfl) ?_
      refine lv_bipush (v := 6) hx hb dX6_scenes_5 (by decide) ?_
      refine lv_icmp_ge (tgt := 32) hx hb dX6_scenes_7 (by decide) (fun c1 => ?_) (fun c1 => ?_)
      · rw [if_pos c1] at hR
        refine lv_iload_n hx hb dX6_scenes_32 rfl (lv_at hl 1 rfl) ?_
        exact W.iret (v := x1_4) hx hb hr (fun t ht hWw => ⟨⟨x1_4, (), rfl, hR.symm.trans eR, trivial⟩, hS.F ht⟩) hS.2.2 dX6_scenes_33
      · rw [if_neg c1] at hR
        have hj_4 : j_4 < 6 := lp_ge ex2_4 (by decide +kernel) (by omega) (by omega) c1
        refine lv_iload_n hx hb dX6_scenes_10 rfl (lv_at hl 1 rfl) ?_
        refine lv_aload_n hx hb dX6_scenes_11 rfl (lv_at hl 0 rfl) ?_
        refine va_get (D := (dC, dI)) (ci := 6) (v := .ref (a 1)) (C := RX6) (T := TX6) (N := 15) hx hb hts hin6 hown hK hP 0 rfl rfl 1 (by decide) (hts (.fieldLink RX6 7 "FeedDeskModel" "s" "[I") (List.mem_of_getElem? (i := 1) rfl)) (fun _ h9 => h9) rfl dX6_scenes_12 ?_
        refine lv_sipush (v := 181) hx hb dX6_scenes_15 (by decide) ?_
        refine lv_bipush (v := 18) hx hb dX6_scenes_18 (by decide) ?_
        refine lv_iload_n hx hb dX6_scenes_20 rfl (lv_at hl 2 rfl) ?_
        refine lv_imul hx hb dX6_scenes_21 ?_
        refine lv_iadd hx hb dX6_scenes_22 ?_
        refine va_iald (f := R 0) hx hb hK hP 1 0 rfl rfl (by rw [ex2_4]; exact vp_of_B (ix_17 j_4 hj_4)) dX6_scenes_23 ?_
        refine lv_iadd hx hb dX6_scenes_24 ?_
        refine lv_istore_n (lv' := [(1, .int (x1_4 + (R 0 (181 + (18 * x2_4)).toNatClampNeg))), (0, .ref (a 0)), (2, .int x2_4)]) hx hb dX6_scenes_25 rfl hl (by decide) rfl (fun ls hl => ?_)
        refine lv_iinc (v := x2_4 + 1) (lv' := [(2, .int (x2_4 + 1)), (1, .int (x1_4 + (R 0 (181 + (18 * x2_4)).toNatClampNeg))), (0, .ref (a 0))]) hx hb dX6_scenes_26 hl (k := 2) rfl rfl (by decide) rfl (fun ls hl => ?_)
        refine lv_goto (tgt := 4) hx hb dX6_scenes_29 (by decide) ?_
        exact ih_4 (j_4 + 1) (x1_4 + (R 0 (181 + (18 * x2_4)).toNatClampNeg)) (x2_4 + 1) (by rw [ex2_4, nI_1]) (by omega) (by omega) hR _ _ _ hP hS (lv_sub hl [2, 1, 0] rfl)
  exact hL_4 7 0 0 0 (by decide +kernel) (by decide) (by decide) hR _ _ _ hP hS (lv_sub hl [2, 1, 0] rfl)
abbrev rm_X6_heard : Room := { frames := 3, cells := 0, slots := 0, locals := 66 }
def f_X6_heard_p4 (R : SR)  : Nat → Int32 → Int32 → Int32
  | 0, _, _ => 0
  | n_4 + 1, x1_4, x2_4 => (if 12 ≤ x2_4 then x1_4 else (if (f_X6_level R x2_4) ≤ 0 then (f_X6_heard_p4 R n_4) (x1_4 ||| 0) (x2_4 + 1) else (f_X6_heard_p4 R n_4) (x1_4 ||| (1 <<< (x2_4 &&& 31))) (x2_4 + 1)))
def f_X6_heard (R : SR)  : Int32 := f_X6_heard_p4 R 13 0 0
set_option maxHeartbeats 4000000 in
set_option maxRecDepth 100000 in
theorem c_X6_heard (l : Launch) (dC : Nat → ClassId) (dI : Nat → Nat → Nat) (cI cC cS : ClassId) (a : Nat → Nat) (R : SR) (sz : Nat)   : Met l yX6_heard wsX6_heard rm_X6_heard (PcG (dC, dI) (tyL cI cC cS) (cMd a cI R) sz [.ref (a 0)]) (va_Qi (fun (r : Int32) (_ : Unit) => r = f_X6_heard R) (fun _ _ => True) (va_A [] sz)) 0 0 (va_A [] sz) := by
  refine Met.ofW (cc := cX6_heard) (maxL := 3) (ret := (some .int)) (by decide) rfl ?_
  intro p e s m args below meth c s₁ B hml hv
  obtain ⟨rfl, hsz, hP, hK, hD0, hN⟩ := hv
  have hx := B.exec
  have hb := B.bytes
  have hr := B.returns
  have hts := atoms_spec (ws := wsX6_heard) B.pre
  have hown : s.vm.findClass RX6 = some m.cls := findClass_of_methodNamed B.named
  have hlocks := B.notSynchronized
  subst hsz
  have hA : ∀ q : Nat, s.heap.size ≤ q → (va_A [] s.heap.size) q := fun q h => Or.inr h
  have hS : va_S (va_A [] s.heap.size) s.heap s.heap [] := va_S.rf
  have hl := lv_entry [.ref (a 0)] (n := 3) (Nat.le_of_ble_eq_true rfl)
  rw [lg_entry_eq]
  generalize (lg_sl [.ref (a 0)] ++ List.replicate (3 - (lg_sl [.ref (a 0)]).length) Slot.unset).toArray = ls at hl ⊢
  have hl : lv_has ls 3 [(0, .ref (a 0))] := hl
  obtain ⟨R0, eR⟩ : ∃ z, z = f_X6_heard R := ⟨_, rfl⟩
  have hR := eR
  rw [f_X6_heard] at hR
  refine lv_iconst (v := 0) hx hb dX6_heard_0 (by decide) ?_
  refine lv_istore_n (lv' := [(1, .int 0), (0, .ref (a 0))]) hx hb dX6_heard_1 rfl hl (by decide) rfl (fun ls hl => ?_)
  refine lv_iconst (v := 0) hx hb dX6_heard_2 (by decide) ?_
  refine lv_istore_n (lv' := [(2, .int 0), (1, .int 0), (0, .ref (a 0))]) hx hb dX6_heard_3 rfl hl (by decide) rfl (fun ls hl => ?_)
  have hL_4 : ∀ n_4 : Nat, ∀ (j_4 : Nat), ∀ (x1_4 : Int32) (x2_4 : Int32) , x2_4 = nI j_4 → j_4 ≤ 12 → 12 < j_4 + n_4 → R0 = f_X6_heard_p4 R n_4 x1_4 x2_4 → ∀ (H : Heap) (locs : List Loc) (ls : Array Slot), va_P (dC, dI) vwCl (cMd a cI R) H → va_S (va_A [] s.heap.size) s.heap H locs → lv_has ls 3 [(0, .ref (a 0)), (1, .int x1_4), (2, .int x2_4)] → W p l e (headSpec wsX6_heard rm_X6_heard).room s m ([.ref (a 0)] : List Value).toArray below meth c H locs 0 0 (MQ below (va_Qi (fun (r : Int32) (_ : Unit) => r = f_X6_heard R) (fun _ _ => True) (va_A [] s.heap.size)) ([.ref (a 0)] : List Value).toArray s 0 0 (va_A [] s.heap.size)) (F0 m 4 ls []) := by
    intro n_4
    induction n_4 with
    | zero =>
      intro j_4 x1_4 x2_4 ex2_4 hj0_4 hn_4
      exact absurd hn_4 (by omega)
    | succ n_4 ih_4 =>
      intro j_4 x1_4 x2_4 ex2_4 hj0_4 hn_4 hR H locs ls hP hS hl
      rw [f_X6_heard_p4] at hR
      refine lv_iload_n hx hb dX6_heard_4 rfl (lv_at hl 2 rfl) ?_
      refine lv_bipush (v := 12) hx hb dX6_heard_5 (by decide) ?_
      refine lv_icmp_ge (tgt := 34) hx hb dX6_heard_7 (by decide) (fun c1 => ?_) (fun c1 => ?_)
      · rw [if_pos c1] at hR
        refine lv_iload_n hx hb dX6_heard_34 rfl (lv_at hl 1 rfl) ?_
        exact W.iret (v := x1_4) hx hb hr (fun t ht hWw => ⟨⟨x1_4, (), rfl, hR.symm.trans eR, trivial⟩, hS.F ht⟩) hS.2.2 dX6_heard_35
      · rw [if_neg c1] at hR
        have hj_4 : j_4 < 12 := lp_ge ex2_4 (by decide +kernel) (by omega) (by omega) c1
        refine lv_iload_n hx hb dX6_heard_10 rfl (lv_at hl 1 rfl) ?_
        refine lv_aload_n hx hb dX6_heard_11 rfl (lv_at hl 0 rfl) ?_
        refine lv_iload_n hx hb dX6_heard_12 rfl (lv_at hl 2 rfl) ?_
        have hPc : va_P (dC, dI) vwCl (cMd a cI R) H := hP.sub [0, 1, 2, 3, 4, 5, 6] rfl
        have hDc : va_D (fun _ => True) (cMd a cI R) := hD0.sub [0, 1, 2, 3, 4, 5, 6] (by decide) rfl
        have hFc : ∀ q : Nat, va_A [] H.size q → (va_A [] s.heap.size) q := roF hS hA
        refine va_calli (va_runV (As := [.int x2_4]) (rest := [.int x1_4]) ⟨hx, hb, hml, hown, hts⟩ (c_X6_level l dC dI cI cC cS a R H.size x2_4 (by rw [ex2_4]; exact vp_of_B (ix_1 j_4 hj_4))) (cwV 1 hts gX6_heard_X6_level rfl rfl rfl (by decide +kernel) ⟨Nat.le_of_ble_eq_true rfl, Nat.le_of_ble_eq_true rfl⟩) (pV (q0 := 0) hK hPc hDc hN rfl rfl) rfl rfl hl.1 rfl (lv_room (Nat.le_of_ble_eq_true rfl)) dX6_heard_13 ⟨Nat.le_of_ble_eq_true rfl, Nat.le_of_ble_eq_true rfl⟩) hS (fun q _ h => hFc q h) hFc (fun r_2 u_2 t_2 H3 locs ht hvm hw hB hz1 hk1 hS => ?_)
        subst hw
        have hP := ro_keep hP hk1
        refine lv_if_le (tgt := 25) hx hb dX6_heard_16 (by decide) (fun c4 => ?_) (fun c4 => ?_)
        · rw [if_pos c4] at hR
          refine lv_iconst (v := 0) hx hb dX6_heard_25 (by decide) ?_
          refine lv_ior hx hb dX6_heard_26 ?_
          refine lv_istore_n (lv' := [(1, .int (x1_4 ||| 0)), (0, .ref (a 0)), (2, .int x2_4)]) hx hb dX6_heard_27 rfl hl (by decide) rfl (fun ls hl => ?_)
          refine lv_iinc (v := x2_4 + 1) (lv' := [(2, .int (x2_4 + 1)), (1, .int (x1_4 ||| 0)), (0, .ref (a 0))]) hx hb dX6_heard_28 hl (k := 2) rfl rfl (by decide) rfl (fun ls hl => ?_)
          refine lv_goto (tgt := 4) hx hb dX6_heard_31 (by decide) ?_
          exact ih_4 (j_4 + 1) (x1_4 ||| 0) (x2_4 + 1) (by rw [ex2_4, nI_1]) (by omega) (by omega) hR _ _ _ hP hS (lv_sub hl [2, 1, 0] rfl)
        · rw [if_neg c4] at hR
          refine lv_iconst (v := 1) hx hb dX6_heard_19 (by decide) ?_
          refine lv_iload_n hx hb dX6_heard_20 rfl (lv_at hl 2 rfl) ?_
          refine lv_ishl hx hb dX6_heard_21 ?_
          refine lv_goto (tgt := 26) hx hb dX6_heard_22 (by decide) ?_
          refine lv_ior hx hb dX6_heard_26 ?_
          refine lv_istore_n (lv' := [(1, .int (x1_4 ||| (1 <<< (x2_4 &&& 31)))), (0, .ref (a 0)), (2, .int x2_4)]) hx hb dX6_heard_27 rfl hl (by decide) rfl (fun ls hl => ?_)
          refine lv_iinc (v := x2_4 + 1) (lv' := [(2, .int (x2_4 + 1)), (1, .int (x1_4 ||| (1 <<< (x2_4 &&& 31)))), (0, .ref (a 0))]) hx hb dX6_heard_28 hl (k := 2) rfl rfl (by decide) rfl (fun ls hl => ?_)
          refine lv_goto (tgt := 4) hx hb dX6_heard_31 (by decide) ?_
          exact ih_4 (j_4 + 1) (x1_4 ||| (1 <<< (x2_4 &&& 31))) (x2_4 + 1) (by rw [ex2_4, nI_1]) (by omega) (by omega) hR _ _ _ hP hS (lv_sub hl [2, 1, 0] rfl)
  exact hL_4 13 0 0 0 (by decide +kernel) (by decide) (by decide) hR _ _ _ hP hS (lv_sub hl [2, 1, 0] rfl)
abbrev rm_X6_touched : Room := { frames := 1, cells := 0, slots := 0, locals := 21 }
def f_X6_touched (R : SR) (p1 : Int32) (p2 : Int32) : Int32 := (if (R 0 144) < 0 then 0 else (if (f_X6_has p1 p2) = 0 then 0 else 1))
set_option maxHeartbeats 4000000 in
set_option maxRecDepth 100000 in
theorem c_X6_touched (l : Launch) (dC : Nat → ClassId) (dI : Nat → Nat → Nat) (cI cC cS : ClassId) (a : Nat → Nat) (R : SR) (sz : Nat) (p1 : Int32) (p2 : Int32)  : Met l yX6_touched wsX6_touched rm_X6_touched (PcG (dC, dI) (tyL cI cC cS) (cMd a cI R) sz [.ref (a 0), .int p1, .int p2]) (va_Qi (fun (r : Int32) (_ : Unit) => r = f_X6_touched R p1 p2) (fun _ _ => True) (va_A [] sz)) 0 0 (va_A [] sz) := by
  refine Met.ofW (cc := cX6_touched) (maxL := 3) (ret := (some .int)) (by decide) rfl ?_
  intro p e s m args below meth c s₁ B hml hv
  obtain ⟨rfl, hsz, hP, hK, hD0, hN⟩ := hv
  have hx := B.exec
  have hb := B.bytes
  have hr := B.returns
  have hts := atoms_spec (ws := wsX6_touched) B.pre
  have hown : s.vm.findClass RX6 = some m.cls := findClass_of_methodNamed B.named
  have hlocks := B.notSynchronized
  subst hsz
  have hA : ∀ q : Nat, s.heap.size ≤ q → (va_A [] s.heap.size) q := fun q h => Or.inr h
  have hS : va_S (va_A [] s.heap.size) s.heap s.heap [] := va_S.rf
  have hin6 : ∀ w ∈ wsX60, w ∈ wsX6_touched := fun _ h => List.mem_cons_of_mem _ (List.mem_append_right _ h)
  have hl := lv_entry [.ref (a 0), .int p1, .int p2] (n := 3) (Nat.le_of_ble_eq_true rfl)
  rw [lg_entry_eq]
  generalize (lg_sl [.ref (a 0), .int p1, .int p2] ++ List.replicate (3 - (lg_sl [.ref (a 0), .int p1, .int p2]).length) Slot.unset).toArray = ls at hl ⊢
  have hl : lv_has ls 3 [(0, .ref (a 0)), (1, .int p1), (2, .int p2)] := hl
  obtain ⟨R0, eR⟩ : ∃ z, z = f_X6_touched R p1 p2 := ⟨_, rfl⟩
  have hR := eR
  rw [f_X6_touched] at hR
  refine lv_aload_n hx hb dX6_touched_0 rfl (lv_at hl 0 rfl) ?_
  refine va_get (D := (dC, dI)) (ci := 6) (v := .ref (a 1)) (C := RX6) (T := TX6) (N := 15) hx hb hts hin6 hown hK hP 0 rfl rfl 1 (by decide) (hts (.fieldLink RX6 7 "FeedDeskModel" "s" "[I") (List.mem_of_getElem? (i := 1) rfl)) (fun _ h9 => h9) rfl dX6_touched_1 ?_
  refine lv_sipush (v := 144) hx hb dX6_touched_4 (by decide) ?_
  refine va_iald (f := R 0) hx hb hK hP 1 0 rfl rfl (vp_of_B (by decide +kernel : vp_okB (144) 289 = true)) dX6_touched_7 ?_
  refine lv_eqi (y := R 0 144) rfl ?_
  refine lv_if_lt (tgt := 23) hx hb dX6_touched_8 (by decide) (fun c1 => ?_) (fun c1 => ?_)
  · rw [if_pos c1] at hR
    refine lv_iconst (v := 0) hx hb dX6_touched_23 (by decide) ?_
    exact W.iret (v := 0) hx hb hr (fun t ht hWw => ⟨⟨0, (), rfl, hR.symm.trans eR, trivial⟩, hS.F ht⟩) hS.2.2 dX6_touched_24
  · rw [if_neg c1] at hR
    refine lv_iload_n hx hb dX6_touched_11 rfl (lv_at hl 1 rfl) ?_
    refine lv_iload_n hx hb dX6_touched_12 rfl (lv_at hl 2 rfl) ?_
    have hFc : ∀ q : Nat, va_A [] s.heap.size q → (va_A [] s.heap.size) q := roF hS hA
    refine va_calli (va_runS (As := [.int p1, .int p2]) (rest := []) ⟨hx, hb, hml, hown, hts⟩ (c_X6_has l dC dI cI cC cS s.heap.size p1 p2) (va_cwS 2 hts gX6_touched_X6_has rfl rfl rfl (by decide +kernel) ⟨Nat.le_of_ble_eq_true rfl, Nat.le_of_ble_eq_true rfl⟩) (pS hK (va_P_nil) (va_D_nil) hN) rfl rfl hl.1 rfl (lv_room (Nat.le_of_ble_eq_true rfl)) dX6_touched_13 ⟨Nat.le_of_ble_eq_true rfl, Nat.le_of_ble_eq_true rfl⟩) hS (fun q _ h => hFc q h) hFc (fun r_2 u_2 t_2 H3 locs ht hvm hw hB hz1 hk1 hS => ?_)
    obtain ⟨hw, hre4⟩ := hw
    subst hw
    have hP := ro_keep hP hk1
    refine lv_if_eq (tgt := 23) hx hb dX6_touched_16 (by decide) (fun c5 => ?_) (fun c5 => ?_)
    · rw [if_pos c5] at hR
      refine lv_iconst (v := 0) hx hb dX6_touched_23 (by decide) ?_
      exact W.iret (v := 0) hx hb hr (fun t ht hWw => ⟨⟨0, (), rfl, hR.symm.trans eR, trivial⟩, hS.F ht⟩) hS.2.2 dX6_touched_24
    · rw [if_neg c5] at hR
      refine lv_iconst (v := 1) hx hb dX6_touched_19 (by decide) ?_
      refine lv_goto (tgt := 24) hx hb dX6_touched_20 (by decide) ?_
      exact W.iret (v := 1) hx hb hr (fun t ht hWw => ⟨⟨1, (), rfl, hR.symm.trans eR, trivial⟩, hS.F ht⟩) hS.2.2 dX6_touched_24
abbrev rm_X6_members : Room := { frames := 1, cells := 0, slots := 0, locals := 22 }
def f_X6_members_p4 (R : SR) (p1 : Int32)  : Nat → Int32 → Int32 → Int32
  | 0, _, _ => 0
  | n_4 + 1, x2_4, x3_4 => (if 12 ≤ x3_4 then x2_4 else (if (f_X6_has (f_X6_of R x3_4 4) p1) = 0 then (f_X6_members_p4 R p1 n_4) (x2_4 + 0) (x3_4 + 1) else (f_X6_members_p4 R p1 n_4) (x2_4 + 1) (x3_4 + 1)))
def f_X6_members (R : SR) (p1 : Int32) : Int32 := f_X6_members_p4 R p1 13 0 0
set_option maxHeartbeats 4000000 in
set_option maxRecDepth 100000 in
theorem c_X6_members (l : Launch) (dC : Nat → ClassId) (dI : Nat → Nat → Nat) (cI cC cS : ClassId) (a : Nat → Nat) (R : SR) (sz : Nat) (p1 : Int32)  : Met l yX6_members wsX6_members rm_X6_members (PcG (dC, dI) (tyL cI cC cS) (cMd a cI R) sz [.ref (a 0), .int p1]) (va_Qi (fun (r : Int32) (_ : Unit) => r = f_X6_members R p1) (fun _ _ => True) (va_A [] sz)) 0 0 (va_A [] sz) := by
  refine Met.ofW (cc := cX6_members) (maxL := 4) (ret := (some .int)) (by decide) rfl ?_
  intro p e s m args below meth c s₁ B hml hv
  obtain ⟨rfl, hsz, hP, hK, hD0, hN⟩ := hv
  have hx := B.exec
  have hb := B.bytes
  have hr := B.returns
  have hts := atoms_spec (ws := wsX6_members) B.pre
  have hown : s.vm.findClass RX6 = some m.cls := findClass_of_methodNamed B.named
  have hlocks := B.notSynchronized
  subst hsz
  have hA : ∀ q : Nat, s.heap.size ≤ q → (va_A [] s.heap.size) q := fun q h => Or.inr h
  have hS : va_S (va_A [] s.heap.size) s.heap s.heap [] := va_S.rf
  have hl := lv_entry [.ref (a 0), .int p1] (n := 4) (Nat.le_of_ble_eq_true rfl)
  rw [lg_entry_eq]
  generalize (lg_sl [.ref (a 0), .int p1] ++ List.replicate (4 - (lg_sl [.ref (a 0), .int p1]).length) Slot.unset).toArray = ls at hl ⊢
  have hl : lv_has ls 4 [(0, .ref (a 0)), (1, .int p1)] := hl
  obtain ⟨R0, eR⟩ : ∃ z, z = f_X6_members R p1 := ⟨_, rfl⟩
  have hR := eR
  rw [f_X6_members] at hR
  refine lv_iconst (v := 0) hx hb dX6_members_0 (by decide) ?_
  refine lv_istore_n (lv' := [(2, .int 0), (0, .ref (a 0)), (1, .int p1)]) hx hb dX6_members_1 rfl hl (by decide) rfl (fun ls hl => ?_)
  refine lv_iconst (v := 0) hx hb dX6_members_2 (by decide) ?_
  refine lv_istore_n (lv' := [(3, .int 0), (2, .int 0), (0, .ref (a 0)), (1, .int p1)]) hx hb dX6_members_3 rfl hl (by decide) rfl (fun ls hl => ?_)
  have hL_4 : ∀ n_4 : Nat, ∀ (j_4 : Nat), ∀ (x2_4 : Int32) (x3_4 : Int32) , x3_4 = nI j_4 → j_4 ≤ 12 → 12 < j_4 + n_4 → R0 = f_X6_members_p4 R p1 n_4 x2_4 x3_4 → ∀ (H : Heap) (locs : List Loc) (ls : Array Slot), va_P (dC, dI) vwCl (cMd a cI R) H → va_S (va_A [] s.heap.size) s.heap H locs → lv_has ls 4 [(0, .ref (a 0)), (1, .int p1), (2, .int x2_4), (3, .int x3_4)] → W p l e (headSpec wsX6_members rm_X6_members).room s m ([.ref (a 0), .int p1] : List Value).toArray below meth c H locs 0 0 (MQ below (va_Qi (fun (r : Int32) (_ : Unit) => r = f_X6_members R p1) (fun _ _ => True) (va_A [] s.heap.size)) ([.ref (a 0), .int p1] : List Value).toArray s 0 0 (va_A [] s.heap.size)) (F0 m 4 ls []) := by
    intro n_4
    induction n_4 with
    | zero =>
      intro j_4 x2_4 x3_4 ex3_4 hj0_4 hn_4
      exact absurd hn_4 (by omega)
    | succ n_4 ih_4 =>
      intro j_4 x2_4 x3_4 ex3_4 hj0_4 hn_4 hR H locs ls hP hS hl
      rw [f_X6_members_p4] at hR
      refine lv_iload_n hx hb dX6_members_4 rfl (lv_at hl 3 rfl) ?_
      refine lv_bipush (v := 12) hx hb dX6_members_5 (by decide) ?_
      refine lv_icmp_ge (tgt := 37) hx hb dX6_members_7 (by decide) (fun c1 => ?_) (fun c1 => ?_)
      · rw [if_pos c1] at hR
        refine lv_iload_n hx hb dX6_members_37 rfl (lv_at hl 2 rfl) ?_
        exact W.iret (v := x2_4) hx hb hr (fun t ht hWw => ⟨⟨x2_4, (), rfl, hR.symm.trans eR, trivial⟩, hS.F ht⟩) hS.2.2 dX6_members_38
      · rw [if_neg c1] at hR
        have hj_4 : j_4 < 12 := lp_ge ex3_4 (by decide +kernel) (by omega) (by omega) c1
        refine lv_iload_n hx hb dX6_members_10 rfl (lv_at hl 2 rfl) ?_
        refine lv_aload_n hx hb dX6_members_11 rfl (lv_at hl 0 rfl) ?_
        refine lv_iload_n hx hb dX6_members_12 rfl (lv_at hl 3 rfl) ?_
        refine lv_iconst (v := 4) hx hb dX6_members_13 (by decide) ?_
        have hPc : va_P (dC, dI) vwCl (cMd a cI R) H := hP.sub [0, 1, 2, 3, 4, 5, 6] rfl
        have hDc : va_D (fun _ => True) (cMd a cI R) := hD0.sub [0, 1, 2, 3, 4, 5, 6] (by decide) rfl
        have hFc : ∀ q : Nat, va_A [] H.size q → (va_A [] s.heap.size) q := roF hS hA
        refine va_calli (va_runV (As := [.int x3_4, .int 4]) (rest := [.int x2_4]) ⟨hx, hb, hml, hown, hts⟩ (c_X6_of l dC dI cI cC cS a R H.size x3_4 4 (by rw [ex3_4]; exact vp_of_B (ix_1 j_4 hj_4)) (vp_of_B (by decide +kernel : vp_okB (4) 5 = true))) (cwV 2 hts gX6_members_X6_of rfl rfl rfl (by decide +kernel) ⟨Nat.le_of_ble_eq_true rfl, Nat.le_of_ble_eq_true rfl⟩) (pV (q0 := 0) hK hPc hDc hN rfl rfl) rfl rfl hl.1 rfl (lv_room (Nat.le_of_ble_eq_true rfl)) dX6_members_14 ⟨Nat.le_of_ble_eq_true rfl, Nat.le_of_ble_eq_true rfl⟩) hS (fun q _ h => hFc q h) hFc (fun r_2 u_2 t_2 H3 locs ht hvm hw hB hz1 hk1 hS => ?_)
        subst hw
        have hP := ro_keep hP hk1
        refine lv_iload_n hx hb dX6_members_17 rfl (lv_at hl 1 rfl) ?_
        have hFc : ∀ q : Nat, va_A [] H3.size q → (va_A [] s.heap.size) q := roF hS hA
        refine va_calli (va_runS (As := [.int (f_X6_of R x3_4 4), .int p1]) (rest := [.int x2_4]) ⟨hx, hb, hml, hown, hts⟩ (c_X6_has l dC dI cI cC cS H3.size (f_X6_of R x3_4 4) p1) (va_cwS 2 hts gX6_members_X6_has rfl rfl rfl (by decide +kernel) ⟨Nat.le_of_ble_eq_true rfl, Nat.le_of_ble_eq_true rfl⟩) (pS hK (va_P_nil) (va_D_nil) hN) rfl rfl hl.1 rfl (lv_room (Nat.le_of_ble_eq_true rfl)) dX6_members_18 ⟨Nat.le_of_ble_eq_true rfl, Nat.le_of_ble_eq_true rfl⟩) hS (fun q _ h => hFc q h) hFc (fun r_4 u_4 t_4 H5 locs ht hvm hw hB hz1 hk1 hS => ?_)
        obtain ⟨hw, hre6⟩ := hw
        subst hw
        have hP := ro_keep hP hk1
        refine lv_if_eq (tgt := 28) hx hb dX6_members_21 (by decide) (fun c7 => ?_) (fun c7 => ?_)
        · rw [if_pos c7] at hR
          refine lv_iconst (v := 0) hx hb dX6_members_28 (by decide) ?_
          refine lv_iadd hx hb dX6_members_29 ?_
          refine lv_istore_n (lv' := [(2, .int (x2_4 + 0)), (0, .ref (a 0)), (1, .int p1), (3, .int x3_4)]) hx hb dX6_members_30 rfl hl (by decide) rfl (fun ls hl => ?_)
          refine lv_iinc (v := x3_4 + 1) (lv' := [(3, .int (x3_4 + 1)), (2, .int (x2_4 + 0)), (0, .ref (a 0)), (1, .int p1)]) hx hb dX6_members_31 hl (k := 3) rfl rfl (by decide) rfl (fun ls hl => ?_)
          refine lv_goto (tgt := 4) hx hb dX6_members_34 (by decide) ?_
          exact ih_4 (j_4 + 1) (x2_4 + 0) (x3_4 + 1) (by rw [ex3_4, nI_1]) (by omega) (by omega) hR _ _ _ hP hS (lv_sub hl [2, 3, 1, 0] rfl)
        · rw [if_neg c7] at hR
          refine lv_iconst (v := 1) hx hb dX6_members_24 (by decide) ?_
          refine lv_goto (tgt := 29) hx hb dX6_members_25 (by decide) ?_
          refine lv_iadd hx hb dX6_members_29 ?_
          refine lv_istore_n (lv' := [(2, .int (x2_4 + 1)), (0, .ref (a 0)), (1, .int p1), (3, .int x3_4)]) hx hb dX6_members_30 rfl hl (by decide) rfl (fun ls hl => ?_)
          refine lv_iinc (v := x3_4 + 1) (lv' := [(3, .int (x3_4 + 1)), (2, .int (x2_4 + 1)), (0, .ref (a 0)), (1, .int p1)]) hx hb dX6_members_31 hl (k := 3) rfl rfl (by decide) rfl (fun ls hl => ?_)
          refine lv_goto (tgt := 4) hx hb dX6_members_34 (by decide) ?_
          exact ih_4 (j_4 + 1) (x2_4 + 1) (x3_4 + 1) (by rw [ex3_4, nI_1]) (by omega) (by omega) hR _ _ _ hP hS (lv_sub hl [2, 3, 1, 0] rfl)
  exact hL_4 13 0 0 0 (by decide +kernel) (by decide) (by decide) hR _ _ _ hP hS (lv_sub hl [2, 3, 1, 0] rfl)
abbrev rm_X6_reaching : Room := { frames := 4, cells := 0, slots := 0, locals := 88 }
def f_X6_reaching_p4 (R : SR) (p1 : Int32)  : Nat → Int32 → Int32 → Int32
  | 0, _, _ => 0
  | n_4 + 1, x2_4, x3_4 => (if 12 ≤ x3_4 then x2_4 else (if (f_X6_gain R p1 x3_4) ≤ 0 then (f_X6_reaching_p4 R p1 n_4) (x2_4 ||| 0) (x3_4 + 1) else (f_X6_reaching_p4 R p1 n_4) (x2_4 ||| (1 <<< (x3_4 &&& 31))) (x3_4 + 1)))
def f_X6_reaching (R : SR) (p1 : Int32) : Int32 := f_X6_reaching_p4 R p1 13 0 0
set_option maxHeartbeats 4000000 in
set_option maxRecDepth 100000 in
theorem c_X6_reaching (l : Launch) (dC : Nat → ClassId) (dI : Nat → Nat → Nat) (cI cC cS : ClassId) (a : Nat → Nat) (R : SR) (sz : Nat) (p1 : Int32) (h1 : vp_in p1 4) : Met l yX6_reaching wsX6_reaching rm_X6_reaching (PcG (dC, dI) (tyL cI cC cS) (cMd a cI R) sz [.ref (a 0), .int p1]) (va_Qi (fun (r : Int32) (_ : Unit) => r = f_X6_reaching R p1) (fun _ _ => True) (va_A [] sz)) 0 0 (va_A [] sz) := by
  refine Met.ofW (cc := cX6_reaching) (maxL := 4) (ret := (some .int)) (by decide) rfl ?_
  intro p e s m args below meth c s₁ B hml hv
  obtain ⟨rfl, hsz, hP, hK, hD0, hN⟩ := hv
  have hx := B.exec
  have hb := B.bytes
  have hr := B.returns
  have hts := atoms_spec (ws := wsX6_reaching) B.pre
  have hown : s.vm.findClass RX6 = some m.cls := findClass_of_methodNamed B.named
  have hlocks := B.notSynchronized
  subst hsz
  have hA : ∀ q : Nat, s.heap.size ≤ q → (va_A [] s.heap.size) q := fun q h => Or.inr h
  have hS : va_S (va_A [] s.heap.size) s.heap s.heap [] := va_S.rf
  have hl := lv_entry [.ref (a 0), .int p1] (n := 4) (Nat.le_of_ble_eq_true rfl)
  rw [lg_entry_eq]
  generalize (lg_sl [.ref (a 0), .int p1] ++ List.replicate (4 - (lg_sl [.ref (a 0), .int p1]).length) Slot.unset).toArray = ls at hl ⊢
  have hl : lv_has ls 4 [(0, .ref (a 0)), (1, .int p1)] := hl
  obtain ⟨R0, eR⟩ : ∃ z, z = f_X6_reaching R p1 := ⟨_, rfl⟩
  have hR := eR
  rw [f_X6_reaching] at hR
  refine lv_iconst (v := 0) hx hb dX6_reaching_0 (by decide) ?_
  refine lv_istore_n (lv' := [(2, .int 0), (0, .ref (a 0)), (1, .int p1)]) hx hb dX6_reaching_1 rfl hl (by decide) rfl (fun ls hl => ?_)
  refine lv_iconst (v := 0) hx hb dX6_reaching_2 (by decide) ?_
  refine lv_istore_n (lv' := [(3, .int 0), (2, .int 0), (0, .ref (a 0)), (1, .int p1)]) hx hb dX6_reaching_3 rfl hl (by decide) rfl (fun ls hl => ?_)
  have hL_4 : ∀ n_4 : Nat, ∀ (j_4 : Nat), ∀ (x2_4 : Int32) (x3_4 : Int32) , x3_4 = nI j_4 → j_4 ≤ 12 → 12 < j_4 + n_4 → R0 = f_X6_reaching_p4 R p1 n_4 x2_4 x3_4 → ∀ (H : Heap) (locs : List Loc) (ls : Array Slot), va_P (dC, dI) vwCl (cMd a cI R) H → va_S (va_A [] s.heap.size) s.heap H locs → lv_has ls 4 [(0, .ref (a 0)), (1, .int p1), (2, .int x2_4), (3, .int x3_4)] → W p l e (headSpec wsX6_reaching rm_X6_reaching).room s m ([.ref (a 0), .int p1] : List Value).toArray below meth c H locs 0 0 (MQ below (va_Qi (fun (r : Int32) (_ : Unit) => r = f_X6_reaching R p1) (fun _ _ => True) (va_A [] s.heap.size)) ([.ref (a 0), .int p1] : List Value).toArray s 0 0 (va_A [] s.heap.size)) (F0 m 4 ls []) := by
    intro n_4
    induction n_4 with
    | zero =>
      intro j_4 x2_4 x3_4 ex3_4 hj0_4 hn_4
      exact absurd hn_4 (by omega)
    | succ n_4 ih_4 =>
      intro j_4 x2_4 x3_4 ex3_4 hj0_4 hn_4 hR H locs ls hP hS hl
      rw [f_X6_reaching_p4] at hR
      refine lv_iload_n hx hb dX6_reaching_4 rfl (lv_at hl 3 rfl) ?_
      refine lv_bipush (v := 12) hx hb dX6_reaching_5 (by decide) ?_
      refine lv_icmp_ge (tgt := 35) hx hb dX6_reaching_7 (by decide) (fun c1 => ?_) (fun c1 => ?_)
      · rw [if_pos c1] at hR
        refine lv_iload_n hx hb dX6_reaching_35 rfl (lv_at hl 2 rfl) ?_
        exact W.iret (v := x2_4) hx hb hr (fun t ht hWw => ⟨⟨x2_4, (), rfl, hR.symm.trans eR, trivial⟩, hS.F ht⟩) hS.2.2 dX6_reaching_36
      · rw [if_neg c1] at hR
        have hj_4 : j_4 < 12 := lp_ge ex3_4 (by decide +kernel) (by omega) (by omega) c1
        refine lv_iload_n hx hb dX6_reaching_10 rfl (lv_at hl 2 rfl) ?_
        refine lv_aload_n hx hb dX6_reaching_11 rfl (lv_at hl 0 rfl) ?_
        refine lv_iload_n hx hb dX6_reaching_12 rfl (lv_at hl 1 rfl) ?_
        refine lv_iload_n hx hb dX6_reaching_13 rfl (lv_at hl 3 rfl) ?_
        have hPc : va_P (dC, dI) vwCl (cMd a cI R) H := hP.sub [0, 1, 2, 3, 4, 5, 6] rfl
        have hDc : va_D (fun _ => True) (cMd a cI R) := hD0.sub [0, 1, 2, 3, 4, 5, 6] (by decide) rfl
        have hFc : ∀ q : Nat, va_A [] H.size q → (va_A [] s.heap.size) q := roF hS hA
        refine va_calli (va_runV (As := [.int p1, .int x3_4]) (rest := [.int x2_4]) ⟨hx, hb, hml, hown, hts⟩ (c_X6_gain l dC dI cI cC cS a R H.size p1 x3_4 h1 (by rw [ex3_4]; exact vp_of_B (ix_1 j_4 hj_4))) (cwV 2 hts gX6_reaching_X6_gain rfl rfl rfl (by decide +kernel) ⟨Nat.le_of_ble_eq_true rfl, Nat.le_of_ble_eq_true rfl⟩) (pV (q0 := 0) hK hPc hDc hN rfl rfl) rfl rfl hl.1 rfl (lv_room (Nat.le_of_ble_eq_true rfl)) dX6_reaching_14 ⟨Nat.le_of_ble_eq_true rfl, Nat.le_of_ble_eq_true rfl⟩) hS (fun q _ h => hFc q h) hFc (fun r_2 u_2 t_2 H3 locs ht hvm hw hB hz1 hk1 hS => ?_)
        subst hw
        have hP := ro_keep hP hk1
        refine lv_if_le (tgt := 26) hx hb dX6_reaching_17 (by decide) (fun c4 => ?_) (fun c4 => ?_)
        · rw [if_pos c4] at hR
          refine lv_iconst (v := 0) hx hb dX6_reaching_26 (by decide) ?_
          refine lv_ior hx hb dX6_reaching_27 ?_
          refine lv_istore_n (lv' := [(2, .int (x2_4 ||| 0)), (0, .ref (a 0)), (1, .int p1), (3, .int x3_4)]) hx hb dX6_reaching_28 rfl hl (by decide) rfl (fun ls hl => ?_)
          refine lv_iinc (v := x3_4 + 1) (lv' := [(3, .int (x3_4 + 1)), (2, .int (x2_4 ||| 0)), (0, .ref (a 0)), (1, .int p1)]) hx hb dX6_reaching_29 hl (k := 3) rfl rfl (by decide) rfl (fun ls hl => ?_)
          refine lv_goto (tgt := 4) hx hb dX6_reaching_32 (by decide) ?_
          exact ih_4 (j_4 + 1) (x2_4 ||| 0) (x3_4 + 1) (by rw [ex3_4, nI_1]) (by omega) (by omega) hR _ _ _ hP hS (lv_sub hl [2, 3, 1, 0] rfl)
        · rw [if_neg c4] at hR
          refine lv_iconst (v := 1) hx hb dX6_reaching_20 (by decide) ?_
          refine lv_iload_n hx hb dX6_reaching_21 rfl (lv_at hl 3 rfl) ?_
          refine lv_ishl hx hb dX6_reaching_22 ?_
          refine lv_goto (tgt := 27) hx hb dX6_reaching_23 (by decide) ?_
          refine lv_ior hx hb dX6_reaching_27 ?_
          refine lv_istore_n (lv' := [(2, .int (x2_4 ||| (1 <<< (x3_4 &&& 31)))), (0, .ref (a 0)), (1, .int p1), (3, .int x3_4)]) hx hb dX6_reaching_28 rfl hl (by decide) rfl (fun ls hl => ?_)
          refine lv_iinc (v := x3_4 + 1) (lv' := [(3, .int (x3_4 + 1)), (2, .int (x2_4 ||| (1 <<< (x3_4 &&& 31)))), (0, .ref (a 0)), (1, .int p1)]) hx hb dX6_reaching_29 hl (k := 3) rfl rfl (by decide) rfl (fun ls hl => ?_)
          refine lv_goto (tgt := 4) hx hb dX6_reaching_32 (by decide) ?_
          exact ih_4 (j_4 + 1) (x2_4 ||| (1 <<< (x3_4 &&& 31))) (x3_4 + 1) (by rw [ex3_4, nI_1]) (by omega) (by omega) hR _ _ _ hP hS (lv_sub hl [2, 3, 1, 0] rfl)
  exact hL_4 13 0 0 0 (by decide +kernel) (by decide) (by decide) hR _ _ _ hP hS (lv_sub hl [2, 3, 1, 0] rfl)
def MN (R R1 : SR) : Prop := ms (vw R1) ≤ ms (vw R)
def MX (x : Int32) (R R1 : SR) : Prop := (R1 6 2).toNatClampNeg - x.toNatClampNeg ≤ ms (vw R)
theorem mn_rf {R : SR} : MN R R := Nat.le_refl _
theorem mn_tr {A B C : SR} (h : MN A B) (g : MN B C) : MN A C := Nat.le_trans g h
theorem mn_inc {A R : SR} (h : MN A R) (hw : WFT R) (c : ¬ R 6 2 ≤ R 6 3) : MN A (sU R 6 3 (R 6 3 + 1)) := Nat.le_trans (Nat.le_of_lt (wft_ms hw c)) h
theorem mx_0 {A R : SR} (h : MN A R) : MX (R 6 3) A R := h
theorem num_vp {r x y : Int32} {n : Nat} (h : r = 0 ∨ (¬ x < 0 ∧ ¬ y < x)) (c : ¬ r = 0) (hy : y = nI n := by decide +kernel) (hn : n < 2 ^ 31 := by decide) : vp_in x (n + 1) := by
  rcases h with h | h
  · exact absurd h c
  · exact rd_vp (r := x) (y := y) (Or.inr h) (fun e => h.1 (by rw [e]; decide)) hy hn
theorem told_step {j p : Nat} (hj : j < 32) (hp : p < 5) (h : f_X6_has (nI j) (nI p) = 0) : nI j ||| (1 <<< (nI p &&& 31)) = nI (j ||| 2 ^ p) ∧ j < (j ||| 2 ^ p) ∧ (j ||| 2 ^ p) < 32 := by
  have := (by decide +kernel : ∀ j : Nat, j < 32 → ∀ p : Nat, p < 5 → f_X6_has (nI j) (nI p) = 0 → nI j ||| (1 <<< (nI p &&& 31)) = nI (j ||| 2 ^ p) ∧ j < (j ||| 2 ^ p) ∧ (j ||| 2 ^ p) < 32) j hj p hp h
  exact this
theorem fkr_inc {x : Int32} {R : SR} (h : FK x (vw R)) (c : ¬ R 6 2 ≤ R 6 3) : FK x (vw (sU R 6 3 (R 6 3 + 1))) := fk_inc (P := vw R) h c
theorem fkr_first {x : Int32} {R : SR} (h : FK x (vw R)) : WFT (sU R 6 3 x) := fk_first (P := vw R) h
theorem fkr_wft {x : Int32} {R : SR} (h : FK x (vw R)) : WFT R := fk_wfp (P := vw R) h
theorem fkr_0 {R : SR} (h : WFT R) : FK (R 6 3) (vw R) := fk_0 (P := vw R) h
theorem wft_zero {R : SR} (h : vp_in (R 6 2) 141) : WFT (sU R 6 3 0) := wfp_zero (P := vw R) h
theorem here_lt {R : SR} {x r : Int32} (h : r = -1 ∨ ¬ R 6 2 ≤ R 6 3) (e : r = x) (hx : ¬ x = -1) : ¬ R 6 2 ≤ R 6 3 := by
  rcases h with h | h
  · exact absurd (e.symm.trans h) hx
  · exact h
theorem in_vp {x y a : Int32} (h : ¬ f_X6_in x a y = 0) {n : Nat} (hn : n < 2 ^ 31) (hy : y = nI n := by decide +kernel) (ha : 0 ≤ a := by decide) : vp_in x (n + 1) := within_vp (x := x) (y := y) (a := a) h hn hy ha
theorem in_split {x a b : Int32} (h : ¬ f_X6_in x a b = 0) : ¬ x < a ∧ ¬ b < x := by
  unfold f_X6_in at h
  by_cases c1 : x < a
  · rw [if_pos c1] at h; exact absurd rfl h
  · rw [if_neg c1] at h
    by_cases c2 : b < x
    · rw [if_pos c2] at h; exact absurd rfl h
    · exact ⟨c1, c2⟩
theorem ch_vp {x : Int32} (h : ¬ f_X6_isChannel x = 0) : vp_in x 12 := in_vp (n := 11) h (by decide)
theorem four_vp {x : Int32} (h : ¬ f_X6_isFour x = 0) : vp_in x 4 := in_vp (n := 3) h (by decide)
theorem scene_vp {x : Int32} (h : ¬ f_X6_isScene x = 0) : vp_in x 6 := in_vp (n := 5) h (by decide)
theorem part_vp {x v : Int32} (h : ¬ f_X6_isPart x v = 0) : vp_in x 5 := by
  unfold f_X6_isPart at h
  by_cases c0 : x = 0
  · rw [c0]; exact vp_of_B (by decide +kernel)
  by_cases c1 : x = 1
  · rw [c1]; exact vp_of_B (by decide +kernel)
  by_cases c2 : x = 2
  · rw [c2]; exact vp_of_B (by decide +kernel)
  by_cases c3 : x = 3
  · rw [c3]; exact vp_of_B (by decide +kernel)
  by_cases c4 : x = 4
  · rw [c4]; exact vp_of_B (by decide +kernel)
  rw [if_neg c0, if_neg c1, if_neg c2, if_neg c3, if_neg c4] at h
  exact absurd rfl h
theorem in_m1 {x : Int32} (h : ¬ f_X6_in x (-1) 11 = 0) : x = -1 ∨ vp_in x 12 := within_m1 h
theorem out_in {x : Int32} (h : x = -99 ∨ vp_in x 4) (c : ¬ x = -99) : vp_in (136 + x) 289 := by
  rcases h with h | h
  · exact absurd h c
  · obtain ⟨j, hj, e⟩ := vp_in_of h (by decide)
    rw [e]
    exact vp_of_B ((by decide +kernel : ∀ j : Nat, j < 4 → vp_okB (136 + nI j) 289 = true) j hj)
theorem sv_dec {x : Int32} (h : vp_in x 6) (c : ¬ x = 5) : vp_in x 5 := by
  obtain ⟨j, hj, e⟩ := vp_in_of h (by decide)
  rw [e] at c ⊢
  exact vp_of_B ((by decide +kernel : ∀ j : Nat, j < 6 → ¬ nI j = 5 → vp_okB (nI j) 5 = true) j hj c)
theorem sv_dec1 {x : Int32} (h : vp_in x 6) (c : ¬ x = 0) : vp_in (x - 1) 5 := by
  obtain ⟨j, hj, e⟩ := vp_in_of h (by decide)
  rw [e] at c ⊢
  exact vp_of_B ((by decide +kernel : ∀ j : Nat, j < 6 → ¬ nI j = 0 → vp_okB (nI j - 1) 5 = true) j hj c)
theorem len_in {x : Int32} (h : vp_in x 141) (c : ¬ x = 140) : vp_in x 140 := by
  obtain ⟨j, hj, e⟩ := vp_in_of h (by decide)
  rw [e] at c ⊢
  exact vp_of_B ((by decide +kernel : ∀ j : Nat, j < 141 → ¬ nI j = 140 → vp_okB (nI j) 140 = true) j hj c)
theorem part5 {x : Int32} (h : vp_in x 9) (c5 : ¬ x = 5) (c6 : ¬ x = 6) (c7 : ¬ x = 7) (c8 : ¬ x = 8) : vp_in x 5 := by
  obtain ⟨j, hj, e⟩ := vp_in_of h (by decide)
  rw [e] at c5 c6 c7 c8 ⊢
  exact vp_of_B ((by decide +kernel : ∀ j : Nat, j < 9 → ¬ nI j = 5 → ¬ nI j = 6 → ¬ nI j = 7 → ¬ nI j = 8 → vp_okB (nI j) 5 = true) j hj c5 c6 c7 c8)
theorem sv_in {x y : Int32} {j : Nat} (h : vp_in x 5) (ey : y = nI j) (hj : j < 289) : vp_in (289 * x + y) 1445 := by
  obtain ⟨i, hi, e⟩ := vp_in_of h (by decide)
  rw [e, ey]
  exact vp_of_B ((by decide +kernel : ∀ i : Nat, i < 5 → ∀ j : Nat, j < 289 → vp_okB (289 * nI i + nI j) 1445 = true) i hi j hj)
