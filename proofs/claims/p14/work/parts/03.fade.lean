theorem ne_of_nle {x : Int32} (h : ¬ x ≤ 0) : ¬ x = 0 := fun z => h (by rw [z]; decide)
theorem ne_of_pos {x : Int32} (h : 0 < x) : ¬ x = 0 := fun z => absurd h (by rw [z]; decide)
abbrev rm_X5_isWithin : Room := { frames := 0, cells := 0, slots := 0, locals := 0 }
def f_X5_isWithin  (p1 : Int32) (p2 : Int32) (p3 : Int32) : Int32 := (if p1 < p2 then 0 else (if p3 < p1 then 0 else 1))
set_option maxHeartbeats 4000000 in
set_option maxRecDepth 100000 in
theorem c_X5_isWithin (l : Launch) (dC : Nat → ClassId) (dI : Nat → Nat → Nat) (cI cC cS : ClassId)   (sz : Nat) (p1 : Int32) (p2 : Int32) (p3 : Int32)  : Met l yX5_isWithin wsX5_isWithin rm_X5_isWithin (PcG (dC, dI) (tyL cI cC cS) ([]) sz [.int p1, .int p2, .int p3]) (va_Qi (fun (r : Int32) (_ : Unit) => r = f_X5_isWithin p1 p2 p3 ∧ (r = 0 ∨ r = 1)) (fun _ _ => True) (va_A [] sz)) 0 0 (va_A [] sz) := by
  refine Met.ofW (cc := cX5_isWithin) (maxL := 3) (ret := (some .boolean)) (by decide) rfl ?_
  intro p e s m args below meth c s₁ B hml hv
  obtain ⟨rfl, hsz, hP, hK, hD0, hN⟩ := hv
  have hx := B.exec
  have hb := B.bytes
  have hr := B.returns
  have hts := atoms_spec (ws := wsX5_isWithin) B.pre
  have hown : s.vm.findClass RX5 = some m.cls := findClass_of_methodNamed B.named
  have hlocks := B.notSynchronized
  subst hsz
  have hA : ∀ q : Nat, s.heap.size ≤ q → (va_A [] s.heap.size) q := fun q h => Or.inr h
  have hS : va_S (va_A [] s.heap.size) s.heap s.heap [] := va_S.rf
  have hl := lv_entry [.int p1, .int p2, .int p3] (n := 3) (Nat.le_of_ble_eq_true rfl)
  rw [lg_entry_eq]
  generalize (lg_sl [.int p1, .int p2, .int p3] ++ List.replicate (3 - (lg_sl [.int p1, .int p2, .int p3]).length) Slot.unset).toArray = ls at hl ⊢
  have hl : lv_has ls 3 [(0, .int p1), (1, .int p2), (2, .int p3)] := hl
  obtain ⟨R0, eR⟩ : ∃ z, z = f_X5_isWithin p1 p2 p3 := ⟨_, rfl⟩
  have hR := eR
  rw [f_X5_isWithin] at hR
  refine lv_iload_n hx hb dX5_isWithin_0 rfl (lv_at hl 0 rfl) ?_
  refine lv_iload_n hx hb dX5_isWithin_1 rfl (lv_at hl 1 rfl) ?_
  refine lv_icmp_lt (tgt := 14) hx hb dX5_isWithin_2 (by decide) (fun c1 => ?_) (fun c1 => ?_)
  · rw [if_pos c1] at hR
    refine lv_iconst (v := 0) hx hb dX5_isWithin_14 (by decide) ?_
    exact W.zret (v := 0) hx hb hr rfl (fun t ht hWw => ⟨⟨0, (), rfl, ⟨hR.symm.trans eR, (Or.inl rfl)⟩, trivial⟩, hS.F ht⟩) hS.2.2 dX5_isWithin_15
  · rw [if_neg c1] at hR
    refine lv_iload_n hx hb dX5_isWithin_5 rfl (lv_at hl 0 rfl) ?_
    refine lv_iload_n hx hb dX5_isWithin_6 rfl (lv_at hl 2 rfl) ?_
    refine lv_icmp_gt (tgt := 14) hx hb dX5_isWithin_7 (by decide) (fun c2 => ?_) (fun c2 => ?_)
    · rw [if_pos c2] at hR
      refine lv_iconst (v := 0) hx hb dX5_isWithin_14 (by decide) ?_
      exact W.zret (v := 0) hx hb hr rfl (fun t ht hWw => ⟨⟨0, (), rfl, ⟨hR.symm.trans eR, (Or.inl rfl)⟩, trivial⟩, hS.F ht⟩) hS.2.2 dX5_isWithin_15
    · rw [if_neg c2] at hR
      refine lv_iconst (v := 1) hx hb dX5_isWithin_10 (by decide) ?_
      refine lv_goto (tgt := 15) hx hb dX5_isWithin_11 (by decide) ?_
      exact W.zret (v := 1) hx hb hr rfl (fun t ht hWw => ⟨⟨1, (), rfl, ⟨hR.symm.trans eR, (Or.inr rfl)⟩, trivial⟩, hS.F ht⟩) hS.2.2 dX5_isWithin_15
abbrev rm_X5_isBelow : Room := { frames := 0, cells := 0, slots := 0, locals := 0 }
def f_X5_isBelow  (p1 : Int32) (p2 : Int32) : Int32 := (if p1 < 0 then 0 else (if p2 ≤ p1 then 0 else 1))
set_option maxHeartbeats 4000000 in
set_option maxRecDepth 100000 in
theorem c_X5_isBelow (l : Launch) (dC : Nat → ClassId) (dI : Nat → Nat → Nat) (cI cC cS : ClassId)   (sz : Nat) (p1 : Int32) (p2 : Int32)  : Met l yX5_isBelow wsX5_isBelow rm_X5_isBelow (PcG (dC, dI) (tyL cI cC cS) ([]) sz [.int p1, .int p2]) (va_Qi (fun (r : Int32) (_ : Unit) => r = f_X5_isBelow p1 p2 ∧ (r = 0 ∨ r = 1)) (fun _ _ => True) (va_A [] sz)) 0 0 (va_A [] sz) := by
  refine Met.ofW (cc := cX5_isBelow) (maxL := 2) (ret := (some .boolean)) (by decide) rfl ?_
  intro p e s m args below meth c s₁ B hml hv
  obtain ⟨rfl, hsz, hP, hK, hD0, hN⟩ := hv
  have hx := B.exec
  have hb := B.bytes
  have hr := B.returns
  have hts := atoms_spec (ws := wsX5_isBelow) B.pre
  have hown : s.vm.findClass RX5 = some m.cls := findClass_of_methodNamed B.named
  have hlocks := B.notSynchronized
  subst hsz
  have hA : ∀ q : Nat, s.heap.size ≤ q → (va_A [] s.heap.size) q := fun q h => Or.inr h
  have hS : va_S (va_A [] s.heap.size) s.heap s.heap [] := va_S.rf
  have hl := lv_entry [.int p1, .int p2] (n := 2) (Nat.le_of_ble_eq_true rfl)
  rw [lg_entry_eq]
  generalize (lg_sl [.int p1, .int p2] ++ List.replicate (2 - (lg_sl [.int p1, .int p2]).length) Slot.unset).toArray = ls at hl ⊢
  have hl : lv_has ls 2 [(0, .int p1), (1, .int p2)] := hl
  obtain ⟨R0, eR⟩ : ∃ z, z = f_X5_isBelow p1 p2 := ⟨_, rfl⟩
  have hR := eR
  rw [f_X5_isBelow] at hR
  refine lv_iload_n hx hb dX5_isBelow_0 rfl (lv_at hl 0 rfl) ?_
  refine lv_if_lt (tgt := 13) hx hb dX5_isBelow_1 (by decide) (fun c1 => ?_) (fun c1 => ?_)
  · rw [if_pos c1] at hR
    refine lv_iconst (v := 0) hx hb dX5_isBelow_13 (by decide) ?_
    exact W.zret (v := 0) hx hb hr rfl (fun t ht hWw => ⟨⟨0, (), rfl, ⟨hR.symm.trans eR, (Or.inl rfl)⟩, trivial⟩, hS.F ht⟩) hS.2.2 dX5_isBelow_14
  · rw [if_neg c1] at hR
    refine lv_iload_n hx hb dX5_isBelow_4 rfl (lv_at hl 0 rfl) ?_
    refine lv_iload_n hx hb dX5_isBelow_5 rfl (lv_at hl 1 rfl) ?_
    refine lv_icmp_ge (tgt := 13) hx hb dX5_isBelow_6 (by decide) (fun c2 => ?_) (fun c2 => ?_)
    · rw [if_pos c2] at hR
      refine lv_iconst (v := 0) hx hb dX5_isBelow_13 (by decide) ?_
      exact W.zret (v := 0) hx hb hr rfl (fun t ht hWw => ⟨⟨0, (), rfl, ⟨hR.symm.trans eR, (Or.inl rfl)⟩, trivial⟩, hS.F ht⟩) hS.2.2 dX5_isBelow_14
    · rw [if_neg c2] at hR
      refine lv_iconst (v := 1) hx hb dX5_isBelow_9 (by decide) ?_
      refine lv_goto (tgt := 14) hx hb dX5_isBelow_10 (by decide) ?_
      exact W.zret (v := 1) hx hb hr rfl (fun t ht hWw => ⟨⟨1, (), rfl, ⟨hR.symm.trans eR, (Or.inr rfl)⟩, trivial⟩, hS.F ht⟩) hS.2.2 dX5_isBelow_14
abbrev rm_X5_hasBit : Room := { frames := 0, cells := 0, slots := 0, locals := 0 }
def f_X5_hasBit  (p1 : Int32) (p2 : Int32) : Int32 := (if ((p1 >>> (p2 &&& 31)) &&& 1) = 1 then 1 else 0)
set_option maxHeartbeats 4000000 in
set_option maxRecDepth 100000 in
theorem c_X5_hasBit (l : Launch) (dC : Nat → ClassId) (dI : Nat → Nat → Nat) (cI cC cS : ClassId)   (sz : Nat) (p1 : Int32) (p2 : Int32)  : Met l yX5_hasBit wsX5_hasBit rm_X5_hasBit (PcG (dC, dI) (tyL cI cC cS) ([]) sz [.int p1, .int p2]) (va_Qi (fun (r : Int32) (_ : Unit) => r = f_X5_hasBit p1 p2 ∧ (r = 0 ∨ r = 1)) (fun _ _ => True) (va_A [] sz)) 0 0 (va_A [] sz) := by
  refine Met.ofW (cc := cX5_hasBit) (maxL := 2) (ret := (some .boolean)) (by decide) rfl ?_
  intro p e s m args below meth c s₁ B hml hv
  obtain ⟨rfl, hsz, hP, hK, hD0, hN⟩ := hv
  have hx := B.exec
  have hb := B.bytes
  have hr := B.returns
  have hts := atoms_spec (ws := wsX5_hasBit) B.pre
  have hown : s.vm.findClass RX5 = some m.cls := findClass_of_methodNamed B.named
  have hlocks := B.notSynchronized
  subst hsz
  have hA : ∀ q : Nat, s.heap.size ≤ q → (va_A [] s.heap.size) q := fun q h => Or.inr h
  have hS : va_S (va_A [] s.heap.size) s.heap s.heap [] := va_S.rf
  have hl := lv_entry [.int p1, .int p2] (n := 2) (Nat.le_of_ble_eq_true rfl)
  rw [lg_entry_eq]
  generalize (lg_sl [.int p1, .int p2] ++ List.replicate (2 - (lg_sl [.int p1, .int p2]).length) Slot.unset).toArray = ls at hl ⊢
  have hl : lv_has ls 2 [(0, .int p1), (1, .int p2)] := hl
  obtain ⟨R0, eR⟩ : ∃ z, z = f_X5_hasBit p1 p2 := ⟨_, rfl⟩
  have hR := eR
  rw [f_X5_hasBit] at hR
  refine lv_iload_n hx hb dX5_hasBit_0 rfl (lv_at hl 0 rfl) ?_
  refine lv_iload_n hx hb dX5_hasBit_1 rfl (lv_at hl 1 rfl) ?_
  refine lv_ishr hx hb dX5_hasBit_2 ?_
  refine lv_iconst (v := 1) hx hb dX5_hasBit_3 (by decide) ?_
  refine lv_iand hx hb dX5_hasBit_4 ?_
  refine lv_iconst (v := 1) hx hb dX5_hasBit_5 (by decide) ?_
  refine lv_icmp_ne (tgt := 13) hx hb dX5_hasBit_6 (by decide) (fun c1 => ?_) (fun c1 => ?_)
  · rw [if_neg c1] at hR
    refine lv_iconst (v := 0) hx hb dX5_hasBit_13 (by decide) ?_
    exact W.zret (v := 0) hx hb hr rfl (fun t ht hWw => ⟨⟨0, (), rfl, ⟨hR.symm.trans eR, (Or.inl rfl)⟩, trivial⟩, hS.F ht⟩) hS.2.2 dX5_hasBit_14
  · rw [if_pos c1] at hR
    refine lv_iconst (v := 1) hx hb dX5_hasBit_9 (by decide) ?_
    refine lv_goto (tgt := 14) hx hb dX5_hasBit_10 (by decide) ?_
    exact W.zret (v := 1) hx hb hr rfl (fun t ht hWw => ⟨⟨1, (), rfl, ⟨hR.symm.trans eR, (Or.inr rfl)⟩, trivial⟩, hS.F ht⟩) hS.2.2 dX5_hasBit_14
abbrev rm_X5_withBit : Room := { frames := 0, cells := 0, slots := 0, locals := 0 }
def f_X5_withBit  (p1 : Int32) (p2 : Int32) (p3 : Int32) : Int32 := (if p3 = 1 then p1 ||| (1 <<< (p2 &&& 31)) else p1 &&& ((1 <<< (p2 &&& 31)) ^^^ (-1)))
set_option maxHeartbeats 4000000 in
set_option maxRecDepth 100000 in
theorem c_X5_withBit (l : Launch) (dC : Nat → ClassId) (dI : Nat → Nat → Nat) (cI cC cS : ClassId)   (sz : Nat) (p1 : Int32) (p2 : Int32) (p3 : Int32)  : Met l yX5_withBit wsX5_withBit rm_X5_withBit (PcG (dC, dI) (tyL cI cC cS) ([]) sz [.int p1, .int p2, .int p3]) (va_Qi (fun (r : Int32) (_ : Unit) => r = f_X5_withBit p1 p2 p3) (fun _ _ => True) (va_A [] sz)) 0 0 (va_A [] sz) := by
  refine Met.ofW (cc := cX5_withBit) (maxL := 3) (ret := (some .int)) (by decide) rfl ?_
  intro p e s m args below meth c s₁ B hml hv
  obtain ⟨rfl, hsz, hP, hK, hD0, hN⟩ := hv
  have hx := B.exec
  have hb := B.bytes
  have hr := B.returns
  have hts := atoms_spec (ws := wsX5_withBit) B.pre
  have hown : s.vm.findClass RX5 = some m.cls := findClass_of_methodNamed B.named
  have hlocks := B.notSynchronized
  subst hsz
  have hA : ∀ q : Nat, s.heap.size ≤ q → (va_A [] s.heap.size) q := fun q h => Or.inr h
  have hS : va_S (va_A [] s.heap.size) s.heap s.heap [] := va_S.rf
  have hl := lv_entry [.int p1, .int p2, .int p3] (n := 3) (Nat.le_of_ble_eq_true rfl)
  rw [lg_entry_eq]
  generalize (lg_sl [.int p1, .int p2, .int p3] ++ List.replicate (3 - (lg_sl [.int p1, .int p2, .int p3]).length) Slot.unset).toArray = ls at hl ⊢
  have hl : lv_has ls 3 [(0, .int p1), (1, .int p2), (2, .int p3)] := hl
  obtain ⟨R0, eR⟩ : ∃ z, z = f_X5_withBit p1 p2 p3 := ⟨_, rfl⟩
  have hR := eR
  rw [f_X5_withBit] at hR
  refine lv_iload_n hx hb dX5_withBit_0 rfl (lv_at hl 2 rfl) ?_
  refine lv_iconst (v := 1) hx hb dX5_withBit_1 (by decide) ?_
  refine lv_icmp_ne (tgt := 13) hx hb dX5_withBit_2 (by decide) (fun c1 => ?_) (fun c1 => ?_)
  · rw [if_neg c1] at hR
    refine lv_iload_n hx hb dX5_withBit_13 rfl (lv_at hl 0 rfl) ?_
    refine lv_iconst (v := 1) hx hb dX5_withBit_14 (by decide) ?_
    refine lv_iload_n hx hb dX5_withBit_15 rfl (lv_at hl 1 rfl) ?_
    refine lv_ishl hx hb dX5_withBit_16 ?_
    refine lv_iconst (v := (-1)) hx hb dX5_withBit_17 (by decide) ?_
    refine lv_ixor hx hb dX5_withBit_18 ?_
    refine lv_iand hx hb dX5_withBit_19 ?_
    exact W.iret (v := p1 &&& ((1 <<< (p2 &&& 31)) ^^^ (-1))) hx hb hr (fun t ht hWw => ⟨⟨p1 &&& ((1 <<< (p2 &&& 31)) ^^^ (-1)), (), rfl, hR.symm.trans eR, trivial⟩, hS.F ht⟩) hS.2.2 dX5_withBit_20
  · rw [if_pos c1] at hR
    refine lv_iload_n hx hb dX5_withBit_5 rfl (lv_at hl 0 rfl) ?_
    refine lv_iconst (v := 1) hx hb dX5_withBit_6 (by decide) ?_
    refine lv_iload_n hx hb dX5_withBit_7 rfl (lv_at hl 1 rfl) ?_
    refine lv_ishl hx hb dX5_withBit_8 ?_
    refine lv_ior hx hb dX5_withBit_9 ?_
    refine lv_goto (tgt := 20) hx hb dX5_withBit_10 (by decide) ?_
    exact W.iret (v := p1 ||| (1 <<< (p2 &&& 31))) hx hb hr (fun t ht hWw => ⟨⟨p1 ||| (1 <<< (p2 &&& 31)), (), rfl, hR.symm.trans eR, trivial⟩, hS.F ht⟩) hS.2.2 dX5_withBit_20
abbrev rm_X5_sendIndex : Room := { frames := 0, cells := 0, slots := 0, locals := 0 }
def f_X5_sendIndex  (p1 : Int32) (p2 : Int32) : Int32 := (p1 * 12) + p2
set_option maxHeartbeats 4000000 in
set_option maxRecDepth 100000 in
theorem c_X5_sendIndex (l : Launch) (dC : Nat → ClassId) (dI : Nat → Nat → Nat) (cI cC cS : ClassId)   (sz : Nat) (p1 : Int32) (p2 : Int32)  : Met l yX5_sendIndex wsX5_sendIndex rm_X5_sendIndex (PcG (dC, dI) (tyL cI cC cS) ([]) sz [.int p1, .int p2]) (va_Qi (fun (r : Int32) (_ : Unit) => r = f_X5_sendIndex p1 p2) (fun _ _ => True) (va_A [] sz)) 0 0 (va_A [] sz) := by
  refine Met.ofW (cc := cX5_sendIndex) (maxL := 2) (ret := (some .int)) (by decide) rfl ?_
  intro p e s m args below meth c s₁ B hml hv
  obtain ⟨rfl, hsz, hP, hK, hD0, hN⟩ := hv
  have hx := B.exec
  have hb := B.bytes
  have hr := B.returns
  have hts := atoms_spec (ws := wsX5_sendIndex) B.pre
  have hown : s.vm.findClass RX5 = some m.cls := findClass_of_methodNamed B.named
  have hlocks := B.notSynchronized
  subst hsz
  have hA : ∀ q : Nat, s.heap.size ≤ q → (va_A [] s.heap.size) q := fun q h => Or.inr h
  have hS : va_S (va_A [] s.heap.size) s.heap s.heap [] := va_S.rf
  have hl := lv_entry [.int p1, .int p2] (n := 2) (Nat.le_of_ble_eq_true rfl)
  rw [lg_entry_eq]
  generalize (lg_sl [.int p1, .int p2] ++ List.replicate (2 - (lg_sl [.int p1, .int p2]).length) Slot.unset).toArray = ls at hl ⊢
  have hl : lv_has ls 2 [(0, .int p1), (1, .int p2)] := hl
  obtain ⟨R0, eR⟩ : ∃ z, z = f_X5_sendIndex p1 p2 := ⟨_, rfl⟩
  have hR := eR
  rw [f_X5_sendIndex] at hR
  refine lv_iload_n hx hb dX5_sendIndex_0 rfl (lv_at hl 0 rfl) ?_
  refine lv_bipush (v := 12) hx hb dX5_sendIndex_1 (by decide) ?_
  refine lv_imul hx hb dX5_sendIndex_3 ?_
  refine lv_iload_n hx hb dX5_sendIndex_4 rfl (lv_at hl 1 rfl) ?_
  refine lv_iadd hx hb dX5_sendIndex_5 ?_
  exact W.iret (v := (p1 * 12) + p2) hx hb hr (fun t ht hWw => ⟨⟨(p1 * 12) + p2, (), rfl, hR.symm.trans eR, trivial⟩, hS.F ht⟩) hS.2.2 dX5_sendIndex_6
abbrev rm_X0_copyFrom : Room := { frames := 1, cells := 0, slots := 0, locals := 18 }
def f_X0_copyFrom (M : SR) (O : SR)  : SR := O
set_option maxHeartbeats 4000000 in
set_option maxRecDepth 100000 in
theorem c_X0_copyFrom (l : Launch) (dC : Nat → ClassId) (dI : Nat → Nat → Nat) (cI cC cS : ClassId) (a : Nat → Nat) (b : Nat → Nat) (M : SR) (O : SR) (sz : Nat)   : Met l yX0_copyFrom wsX0_copyFrom rm_X0_copyFrom (PcG (dC, dI) (tyL cI cC cS) (cFd a cI M ++ cFd b cI O) sz [.ref (a 0), .ref (b 0)]) (va_Qv (fun (u : SR) => u = f_X0_copyFrom M O) (fun u U => va_P (dC, dI) vwCl (cFd a cI u ++ cFd b cI O) U.heap ∧ va_D (va_A (cFd a cI M ++ cFd b cI O) sz) (cFd a cI u ++ cFd b cI O)) (va_A (cFd a cI M ++ cFd b cI O) sz)) 0 0 (va_A (cFd a cI M ++ cFd b cI O) sz) := by
  refine Met.ofW (cc := cX0_copyFrom) (maxL := 2) (ret := none) (by decide) rfl ?_
  intro p e s m args below meth c s₁ B hml hv
  obtain ⟨rfl, hsz, hP, hK, hD0, hN⟩ := hv
  have hx := B.exec
  have hb := B.bytes
  have hr := B.returns
  have hts := atoms_spec (ws := wsX0_copyFrom) B.pre
  have hown : s.vm.findClass RX0 = some m.cls := findClass_of_methodNamed B.named
  have hlocks := B.notSynchronized
  subst hsz
  have hD := hD0.self (sz := s.heap.size)
  have hA : ∀ q : Nat, s.heap.size ≤ q → (va_A (cFd a cI M ++ cFd b cI O) s.heap.size) q := fun q h => Or.inr h
  have hS : va_S (va_A (cFd a cI M ++ cFd b cI O) s.heap.size) s.heap s.heap [] := va_S.rf
  have hin0 : ∀ w ∈ wsX00, w ∈ wsX0_copyFrom := fun _ h => List.mem_cons_of_mem _ (List.mem_append_right _ h)
  have hl := lv_entry [.ref (a 0), .ref (b 0)] (n := 2) (Nat.le_of_ble_eq_true rfl)
  rw [lg_entry_eq]
  generalize (lg_sl [.ref (a 0), .ref (b 0)] ++ List.replicate (2 - (lg_sl [.ref (a 0), .ref (b 0)]).length) Slot.unset).toArray = ls at hl ⊢
  have hl : lv_has ls 2 [(0, .ref (a 0)), (1, .ref (b 0))] := hl
  refine lv_aload_n hx hb dX0_copyFrom_0 rfl (lv_at hl 0 rfl) ?_
  refine lv_aload_n hx hb dX0_copyFrom_1 rfl (lv_at hl 1 rfl) ?_
  refine va_get (D := (dC, dI)) (ci := 0) (v := .int (O 11 0)) (C := RX0) (T := TX0) (N := 5) hx hb hts hin0 hown hK hP 2 rfl rfl 0 (by decide) (hts (.fieldLink RX0 15 "FeedDesk$Fade" "target" "I") (List.mem_of_getElem? (i := 1) rfl)) (fun _ h9 => h9) rfl dX0_copyFrom_2 ?_
  refine va_put (D := (dC, dI)) (ci := 0) (v := .int (O 11 0)) (ty := .int) (C := RX0) (T := TX0) (N := 5) hx hb hts hin0 tyX0 tyX0_ok nmX0 hown hK hP hD hS 0 rfl rfl 0 (by decide) (hts (.fieldLink RX0 15 "FeedDesk$Fade" "target" "I") (List.mem_of_getElem? (i := 1) rfl)) (fun _ h9 => h9) rfl (by decide +kernel) rfl rfl (Nat.le_of_ble_eq_true rfl) dX0_copyFrom_5 (fun H1 locs hP hD hS => ?_)
  have hP : va_P (dC, dI) vwCl (cFd a cI (sU M 11 0 (O 11 0)) ++ cFd b cI O) H1 := hP
  have hD : va_D (va_A (cFd a cI M ++ cFd b cI O) s.heap.size) (cFd a cI (sU M 11 0 (O 11 0)) ++ cFd b cI O) := hD
  obtain ⟨Mn2, eMn2⟩ : ∃ z : SR, z = sU M 11 0 (O 11 0) := ⟨_, rfl⟩
  rw [← eMn2] at hP hD
  refine lv_aload_n hx hb dX0_copyFrom_8 rfl (lv_at hl 0 rfl) ?_
  refine lv_aload_n hx hb dX0_copyFrom_9 rfl (lv_at hl 1 rfl) ?_
  refine va_get (D := (dC, dI)) (ci := 0) (v := .int (O 11 1)) (C := RX0) (T := TX0) (N := 5) hx hb hts hin0 hown hK hP 2 rfl rfl 1 (by decide) (hts (.fieldLink RX0 19 "FeedDesk$Fade" "step" "I") (List.mem_of_getElem? (i := 2) rfl)) (fun _ h9 => h9) rfl dX0_copyFrom_10 ?_
  refine va_put (D := (dC, dI)) (ci := 0) (v := .int (O 11 1)) (ty := .int) (C := RX0) (T := TX0) (N := 5) hx hb hts hin0 tyX0 tyX0_ok nmX0 hown hK hP hD hS 0 rfl rfl 1 (by decide) (hts (.fieldLink RX0 19 "FeedDesk$Fade" "step" "I") (List.mem_of_getElem? (i := 2) rfl)) (fun _ h9 => h9) rfl (by decide +kernel) rfl rfl (Nat.le_of_ble_eq_true rfl) dX0_copyFrom_13 (fun H3 locs hP hD hS => ?_)
  have hP : va_P (dC, dI) vwCl (cFd a cI (sU Mn2 11 1 (O 11 1)) ++ cFd b cI O) H3 := hP
  have hD : va_D (va_A (cFd a cI M ++ cFd b cI O) s.heap.size) (cFd a cI (sU Mn2 11 1 (O 11 1)) ++ cFd b cI O) := hD
  obtain ⟨Mn4, eMn4⟩ : ∃ z : SR, z = sU Mn2 11 1 (O 11 1) := ⟨_, rfl⟩
  rw [← eMn4] at hP hD
  refine lv_aload_n hx hb dX0_copyFrom_16 rfl (lv_at hl 0 rfl) ?_
  refine lv_aload_n hx hb dX0_copyFrom_17 rfl (lv_at hl 1 rfl) ?_
  refine va_get (D := (dC, dI)) (ci := 0) (v := .int (O 11 2)) (C := RX0) (T := TX0) (N := 5) hx hb hts hin0 hown hK hP 2 rfl rfl 2 (by decide) (hts (.fieldLink RX0 22 "FeedDesk$Fade" "ticks" "I") (List.mem_of_getElem? (i := 3) rfl)) (fun _ h9 => h9) rfl dX0_copyFrom_18 ?_
  refine va_put (D := (dC, dI)) (ci := 0) (v := .int (O 11 2)) (ty := .int) (C := RX0) (T := TX0) (N := 5) hx hb hts hin0 tyX0 tyX0_ok nmX0 hown hK hP hD hS 0 rfl rfl 2 (by decide) (hts (.fieldLink RX0 22 "FeedDesk$Fade" "ticks" "I") (List.mem_of_getElem? (i := 3) rfl)) (fun _ h9 => h9) rfl (by decide +kernel) rfl rfl (Nat.le_of_ble_eq_true rfl) dX0_copyFrom_21 (fun H5 locs hP hD hS => ?_)
  have hP : va_P (dC, dI) vwCl (cFd a cI (sU Mn4 11 2 (O 11 2)) ++ cFd b cI O) H5 := hP
  have hD : va_D (va_A (cFd a cI M ++ cFd b cI O) s.heap.size) (cFd a cI (sU Mn4 11 2 (O 11 2)) ++ cFd b cI O) := hD
  obtain ⟨Mn6, eMn6⟩ : ∃ z : SR, z = sU Mn4 11 2 (O 11 2) := ⟨_, rfl⟩
  rw [← eMn6] at hP hD
  refine lv_aload_n hx hb dX0_copyFrom_24 rfl (lv_at hl 0 rfl) ?_
  refine lv_aload_n hx hb dX0_copyFrom_25 rfl (lv_at hl 1 rfl) ?_
  refine va_get (D := (dC, dI)) (ci := 0) (v := .int (O 11 3)) (C := RX0) (T := TX0) (N := 5) hx hb hts hin0 hown hK hP 2 rfl rfl 3 (by decide) (hts (.fieldLink RX0 25 "FeedDesk$Fade" "touched" "I") (List.mem_of_getElem? (i := 4) rfl)) (fun _ h9 => h9) rfl dX0_copyFrom_26 ?_
  refine va_put (D := (dC, dI)) (ci := 0) (v := .int (O 11 3)) (ty := .int) (C := RX0) (T := TX0) (N := 5) hx hb hts hin0 tyX0 tyX0_ok nmX0 hown hK hP hD hS 0 rfl rfl 3 (by decide) (hts (.fieldLink RX0 25 "FeedDesk$Fade" "touched" "I") (List.mem_of_getElem? (i := 4) rfl)) (fun _ h9 => h9) rfl (by decide +kernel) rfl rfl (Nat.le_of_ble_eq_true rfl) dX0_copyFrom_29 (fun H7 locs hP hD hS => ?_)
  have hP : va_P (dC, dI) vwCl (cFd a cI (sU Mn6 11 3 (O 11 3)) ++ cFd b cI O) H7 := hP
  have hD : va_D (va_A (cFd a cI M ++ cFd b cI O) s.heap.size) (cFd a cI (sU Mn6 11 3 (O 11 3)) ++ cFd b cI O) := hD
  obtain ⟨Mn8, eMn8⟩ : ∃ z : SR, z = sU Mn6 11 3 (O 11 3) := ⟨_, rfl⟩
  rw [← eMn8] at hP hD
  refine lv_aload_n hx hb dX0_copyFrom_32 rfl (lv_at hl 1 rfl) ?_
  refine va_get (D := (dC, dI)) (ci := 0) (v := .ref (b 1)) (C := RX0) (T := TX0) (N := 5) hx hb hts hin0 hown hK hP 2 rfl rfl 4 (by decide) (hts (.fieldLink RX0 9 "FeedDesk$Fade" "from" "[I") (List.mem_of_getElem? (i := 5) rfl)) (fun _ h9 => h9) rfl dX0_copyFrom_33 ?_
  refine lv_iconst (v := 0) hx hb dX0_copyFrom_36 (by decide) ?_
  refine lv_aload_n hx hb dX0_copyFrom_37 rfl (lv_at hl 0 rfl) ?_
  refine va_get (D := (dC, dI)) (ci := 0) (v := .ref (a 1)) (C := RX0) (T := TX0) (N := 5) hx hb hts hin0 hown hK hP 0 rfl rfl 4 (by decide) (hts (.fieldLink RX0 9 "FeedDesk$Fade" "from" "[I") (List.mem_of_getElem? (i := 5) rfl)) (fun _ h9 => h9) rfl dX0_copyFrom_38 ?_
  refine lv_iconst (v := 0) hx hb dX0_copyFrom_41 (by decide) ?_
  refine lv_bipush (v := 16) hx hb dX0_copyFrom_42 (by decide) ?_
  refine va_copyT (h := O 9) (f := O 9) (g := Mn8 9) hx hb (hml.trans hl.1.symm) hown (hts (.methodLink RX0 28 arraycopyName) (List.mem_of_getElem? (i := 6) rfl)) (hts (.native arraycopyName) (List.mem_of_getElem? (i := 7) rfl)) (hts (.static arraycopyName) (List.mem_of_getElem? (i := 8) rfl)) (hts (.initialized "java/lang/System") (List.mem_of_getElem? (i := 9) rfl)) hK hP hD hS 3 1 0 0 rfl rfl rfl rfl rfl (by decide) (by decide) (by decide) (by decide +kernel) (by decide +kernel) (fun _ _ => rfl) (fun q hq => cp_full hq) (Nat.le_of_ble_eq_true rfl) (Nat.le_of_ble_eq_true rfl) dX0_copyFrom_44 (fun H9 locs hP hD hS => ?_)
  have hP : va_P (dC, dI) vwCl (cFd a cI (sR Mn8 9 (O 9)) ++ cFd b cI O) H9 := hP
  have hD : va_D (va_A (cFd a cI M ++ cFd b cI O) s.heap.size) (cFd a cI (sR Mn8 9 (O 9)) ++ cFd b cI O) := hD
  obtain ⟨Mn10, eMn10⟩ : ∃ z : SR, z = sR Mn8 9 (O 9) := ⟨_, rfl⟩
  rw [← eMn10] at hP hD
  subst eMn10
  subst eMn8
  subst eMn6
  subst eMn4
  subst eMn2
  exact W.vret hx hb hr (fun t ht hWw => ⟨⟨O, rfl, rfl, by rw [ht]; exact hP, hD⟩, hS.F ht⟩) hS.2.2 dX0_copyFrom_47
abbrev rm_X0_begin : Room := { frames := 1, cells := 0, slots := 0, locals := 18 }
def f_X0_begin (M : SR) (g : (Nat → Int32)) (p1 : Int32) (p2 : Int32) : SR := sLet (sU M 11 0 p1) (fun Mn2 : SR => sLet (sU Mn2 11 1 0) (fun Mn4 : SR => sLet (sU Mn4 11 2 p2) (fun Mn6 : SR => sLet (sU Mn6 11 3 0) (fun Mn8 : SR => sLet (sR Mn8 9 g) (fun Mn10 : SR => Mn10)))))
set_option maxHeartbeats 4000000 in
set_option maxRecDepth 100000 in
theorem c_X0_begin (l : Launch) (dC : Nat → ClassId) (dI : Nat → Nat → Nat) (cI cC cS : ClassId) (a : Nat → Nat) (b : Nat → Nat) (M : SR) (g : (Nat → Int32)) (sz : Nat) (p1 : Int32) (p2 : Int32)  : Met l yX0_begin wsX0_begin rm_X0_begin (PcG (dC, dI) (tyL cI cC cS) (cFd a cI M ++ cA16 b cI g) sz [.ref (a 0), .int p1, .int p2, .ref (b 0)]) (va_Qv (fun (u : SR) => u = f_X0_begin M g p1 p2 ∧ (u 11 0 = p1)) (fun u U => va_P (dC, dI) vwCl (cFd a cI u ++ cA16 b cI g) U.heap ∧ va_D (va_A (cFd a cI M ++ cA16 b cI g) sz) (cFd a cI u ++ cA16 b cI g)) (va_A (cFd a cI M ++ cA16 b cI g) sz)) 0 0 (va_A (cFd a cI M ++ cA16 b cI g) sz) := by
  refine Met.ofW (cc := cX0_begin) (maxL := 4) (ret := none) (by decide) rfl ?_
  intro p e s m args below meth c s₁ B hml hv
  obtain ⟨rfl, hsz, hP, hK, hD0, hN⟩ := hv
  have hx := B.exec
  have hb := B.bytes
  have hr := B.returns
  have hts := atoms_spec (ws := wsX0_begin) B.pre
  have hown : s.vm.findClass RX0 = some m.cls := findClass_of_methodNamed B.named
  have hlocks := B.notSynchronized
  subst hsz
  have hD := hD0.self (sz := s.heap.size)
  have hA : ∀ q : Nat, s.heap.size ≤ q → (va_A (cFd a cI M ++ cA16 b cI g) s.heap.size) q := fun q h => Or.inr h
  have hS : va_S (va_A (cFd a cI M ++ cA16 b cI g) s.heap.size) s.heap s.heap [] := va_S.rf
  have hin0 : ∀ w ∈ wsX00, w ∈ wsX0_begin := fun _ h => List.mem_cons_of_mem _ (List.mem_append_right _ h)
  have hl := lv_entry [.ref (a 0), .int p1, .int p2, .ref (b 0)] (n := 4) (Nat.le_of_ble_eq_true rfl)
  rw [lg_entry_eq]
  generalize (lg_sl [.ref (a 0), .int p1, .int p2, .ref (b 0)] ++ List.replicate (4 - (lg_sl [.ref (a 0), .int p1, .int p2, .ref (b 0)]).length) Slot.unset).toArray = ls at hl ⊢
  have hl : lv_has ls 4 [(0, .ref (a 0)), (1, .int p1), (2, .int p2), (3, .ref (b 0))] := hl
  obtain ⟨R0, eR⟩ : ∃ z, z = f_X0_begin M g p1 p2 := ⟨_, rfl⟩
  have hR := eR
  rw [f_X0_begin] at hR
  refine lv_aload_n hx hb dX0_begin_0 rfl (lv_at hl 0 rfl) ?_
  refine lv_iload_n hx hb dX0_begin_1 rfl (lv_at hl 1 rfl) ?_
  refine va_put (D := (dC, dI)) (ci := 0) (v := .int p1) (ty := .int) (C := RX0) (T := TX0) (N := 5) hx hb hts hin0 tyX0 tyX0_ok nmX0 hown hK hP hD hS 0 rfl rfl 0 (by decide) (hts (.fieldLink RX0 15 "FeedDesk$Fade" "target" "I") (List.mem_of_getElem? (i := 1) rfl)) (fun _ h9 => h9) rfl (by decide +kernel) rfl rfl (Nat.le_of_ble_eq_true rfl) dX0_begin_2 (fun H1 locs hP hD hS => ?_)
  have hP : va_P (dC, dI) vwCl (cFd a cI (sU M 11 0 p1) ++ cA16 b cI g) H1 := hP
  have hD : va_D (va_A (cFd a cI M ++ cA16 b cI g) s.heap.size) (cFd a cI (sU M 11 0 p1) ++ cA16 b cI g) := hD
  obtain ⟨Mn2, eMn2⟩ : ∃ z : SR, z = sU M 11 0 p1 := ⟨_, rfl⟩
  rw [sLet_eq, ← eMn2] at hR
  rw [← eMn2] at hP hD
  refine lv_aload_n hx hb dX0_begin_5 rfl (lv_at hl 0 rfl) ?_
  refine lv_iconst (v := 0) hx hb dX0_begin_6 (by decide) ?_
  refine va_put (D := (dC, dI)) (ci := 0) (v := .int 0) (ty := .int) (C := RX0) (T := TX0) (N := 5) hx hb hts hin0 tyX0 tyX0_ok nmX0 hown hK hP hD hS 0 rfl rfl 1 (by decide) (hts (.fieldLink RX0 19 "FeedDesk$Fade" "step" "I") (List.mem_of_getElem? (i := 2) rfl)) (fun _ h9 => h9) rfl (by decide +kernel) rfl rfl (Nat.le_of_ble_eq_true rfl) dX0_begin_7 (fun H3 locs hP hD hS => ?_)
  have hP : va_P (dC, dI) vwCl (cFd a cI (sU Mn2 11 1 0) ++ cA16 b cI g) H3 := hP
  have hD : va_D (va_A (cFd a cI M ++ cA16 b cI g) s.heap.size) (cFd a cI (sU Mn2 11 1 0) ++ cA16 b cI g) := hD
  obtain ⟨Mn4, eMn4⟩ : ∃ z : SR, z = sU Mn2 11 1 0 := ⟨_, rfl⟩
  rw [sLet_eq, ← eMn4] at hR
  rw [← eMn4] at hP hD
  refine lv_aload_n hx hb dX0_begin_10 rfl (lv_at hl 0 rfl) ?_
  refine lv_iload_n hx hb dX0_begin_11 rfl (lv_at hl 2 rfl) ?_
  refine va_put (D := (dC, dI)) (ci := 0) (v := .int p2) (ty := .int) (C := RX0) (T := TX0) (N := 5) hx hb hts hin0 tyX0 tyX0_ok nmX0 hown hK hP hD hS 0 rfl rfl 2 (by decide) (hts (.fieldLink RX0 22 "FeedDesk$Fade" "ticks" "I") (List.mem_of_getElem? (i := 3) rfl)) (fun _ h9 => h9) rfl (by decide +kernel) rfl rfl (Nat.le_of_ble_eq_true rfl) dX0_begin_12 (fun H5 locs hP hD hS => ?_)
  have hP : va_P (dC, dI) vwCl (cFd a cI (sU Mn4 11 2 p2) ++ cA16 b cI g) H5 := hP
  have hD : va_D (va_A (cFd a cI M ++ cA16 b cI g) s.heap.size) (cFd a cI (sU Mn4 11 2 p2) ++ cA16 b cI g) := hD
  obtain ⟨Mn6, eMn6⟩ : ∃ z : SR, z = sU Mn4 11 2 p2 := ⟨_, rfl⟩
  rw [sLet_eq, ← eMn6] at hR
  rw [← eMn6] at hP hD
  refine lv_aload_n hx hb dX0_begin_15 rfl (lv_at hl 0 rfl) ?_
  refine lv_iconst (v := 0) hx hb dX0_begin_16 (by decide) ?_
  refine va_put (D := (dC, dI)) (ci := 0) (v := .int 0) (ty := .int) (C := RX0) (T := TX0) (N := 5) hx hb hts hin0 tyX0 tyX0_ok nmX0 hown hK hP hD hS 0 rfl rfl 3 (by decide) (hts (.fieldLink RX0 25 "FeedDesk$Fade" "touched" "I") (List.mem_of_getElem? (i := 4) rfl)) (fun _ h9 => h9) rfl (by decide +kernel) rfl rfl (Nat.le_of_ble_eq_true rfl) dX0_begin_17 (fun H7 locs hP hD hS => ?_)
  have hP : va_P (dC, dI) vwCl (cFd a cI (sU Mn6 11 3 0) ++ cA16 b cI g) H7 := hP
  have hD : va_D (va_A (cFd a cI M ++ cA16 b cI g) s.heap.size) (cFd a cI (sU Mn6 11 3 0) ++ cA16 b cI g) := hD
  obtain ⟨Mn8, eMn8⟩ : ∃ z : SR, z = sU Mn6 11 3 0 := ⟨_, rfl⟩
  rw [sLet_eq, ← eMn8] at hR
  rw [← eMn8] at hP hD
  refine lv_aload_n hx hb dX0_begin_20 rfl (lv_at hl 3 rfl) ?_
  refine lv_iconst (v := 0) hx hb dX0_begin_21 (by decide) ?_
  refine lv_aload_n hx hb dX0_begin_22 rfl (lv_at hl 0 rfl) ?_
  refine va_get (D := (dC, dI)) (ci := 0) (v := .ref (a 1)) (C := RX0) (T := TX0) (N := 5) hx hb hts hin0 hown hK hP 0 rfl rfl 4 (by decide) (hts (.fieldLink RX0 9 "FeedDesk$Fade" "from" "[I") (List.mem_of_getElem? (i := 5) rfl)) (fun _ h9 => h9) rfl dX0_begin_23 ?_
  refine lv_iconst (v := 0) hx hb dX0_begin_26 (by decide) ?_
  refine lv_bipush (v := 16) hx hb dX0_begin_27 (by decide) ?_
  refine va_copyT (h := g) (f := g) (g := Mn8 9) hx hb (hml.trans hl.1.symm) hown (hts (.methodLink RX0 28 arraycopyName) (List.mem_of_getElem? (i := 6) rfl)) (hts (.native arraycopyName) (List.mem_of_getElem? (i := 7) rfl)) (hts (.static arraycopyName) (List.mem_of_getElem? (i := 8) rfl)) (hts (.initialized "java/lang/System") (List.mem_of_getElem? (i := 9) rfl)) hK hP hD hS 2 1 0 0 rfl rfl rfl rfl rfl (by decide) (by decide) (by decide) (by decide +kernel) (by decide +kernel) (fun _ _ => rfl) (fun q hq => cp_full hq) (Nat.le_of_ble_eq_true rfl) (Nat.le_of_ble_eq_true rfl) dX0_begin_29 (fun H9 locs hP hD hS => ?_)
  have hP : va_P (dC, dI) vwCl (cFd a cI (sR Mn8 9 g) ++ cA16 b cI g) H9 := hP
  have hD : va_D (va_A (cFd a cI M ++ cA16 b cI g) s.heap.size) (cFd a cI (sR Mn8 9 g) ++ cA16 b cI g) := hD
  obtain ⟨Mn10, eMn10⟩ : ∃ z : SR, z = sR Mn8 9 g := ⟨_, rfl⟩
  rw [sLet_eq, ← eMn10] at hR
  rw [← eMn10] at hP hD
  exact W.vret hx hb hr (fun t ht hWw => ⟨⟨Mn10, rfl, ⟨hR.symm.trans eR, (by subst eMn10; subst eMn8; subst eMn6; subst eMn4; subst eMn2; rfl)⟩, by rw [ht]; exact hP, hD⟩, hS.F ht⟩) hS.2.2 dX0_begin_32
abbrev rm_X0_end : Room := { frames := 0, cells := 0, slots := 0, locals := 0 }
def f_X0_end (M : SR)  : SR := sLet (sU M 11 1 0) (fun Mn2 : SR => sLet (sU Mn2 11 2 0) (fun Mn5 : SR => sLet (sU Mn5 11 3 0) (fun Mn8 : SR => Mn8)))
set_option maxHeartbeats 4000000 in
set_option maxRecDepth 100000 in
theorem c_X0_end (l : Launch) (dC : Nat → ClassId) (dI : Nat → Nat → Nat) (cI cC cS : ClassId) (a : Nat → Nat) (M : SR) (sz : Nat)   : Met l yX0_end wsX0_end rm_X0_end (PcG (dC, dI) (tyL cI cC cS) (cFd a cI M) sz [.ref (a 0)]) (va_Qv (fun (u : SR) => u = f_X0_end M ∧ (u 11 0 = M 11 0)) (fun u U => va_P (dC, dI) vwCl (cFd a cI u) U.heap ∧ va_D (va_A (cFd a cI M) sz) (cFd a cI u)) (va_A (cFd a cI M) sz)) 0 0 (va_A (cFd a cI M) sz) := by
  refine Met.ofW (cc := cX0_end) (maxL := 1) (ret := none) (by decide) rfl ?_
  intro p e s m args below meth c s₁ B hml hv
  obtain ⟨rfl, hsz, hP, hK, hD0, hN⟩ := hv
  have hx := B.exec
  have hb := B.bytes
  have hr := B.returns
  have hts := atoms_spec (ws := wsX0_end) B.pre
  have hown : s.vm.findClass RX0 = some m.cls := findClass_of_methodNamed B.named
  have hlocks := B.notSynchronized
  subst hsz
  have hD := hD0.self (sz := s.heap.size)
  have hA : ∀ q : Nat, s.heap.size ≤ q → (va_A (cFd a cI M) s.heap.size) q := fun q h => Or.inr h
  have hS : va_S (va_A (cFd a cI M) s.heap.size) s.heap s.heap [] := va_S.rf
  have hin0 : ∀ w ∈ wsX00, w ∈ wsX0_end := fun _ h => List.mem_cons_of_mem _ (List.mem_append_right _ h)
  have ht_0 : M 11 0 = M 11 0 := rfl
  have hl := lv_entry [.ref (a 0)] (n := 1) (Nat.le_of_ble_eq_true rfl)
  rw [lg_entry_eq]
  generalize (lg_sl [.ref (a 0)] ++ List.replicate (1 - (lg_sl [.ref (a 0)]).length) Slot.unset).toArray = ls at hl ⊢
  have hl : lv_has ls 1 [(0, .ref (a 0))] := hl
  obtain ⟨R0, eR⟩ : ∃ z, z = f_X0_end M := ⟨_, rfl⟩
  have hR := eR
  rw [f_X0_end] at hR
  refine lv_aload_n hx hb dX0_end_0 rfl (lv_at hl 0 rfl) ?_
  refine lv_iconst (v := 0) hx hb dX0_end_1 (by decide) ?_
  refine va_put (D := (dC, dI)) (ci := 0) (v := .int 0) (ty := .int) (C := RX0) (T := TX0) (N := 5) hx hb hts hin0 tyX0 tyX0_ok nmX0 hown hK hP hD hS 0 rfl rfl 1 (by decide) (hts (.fieldLink RX0 19 "FeedDesk$Fade" "step" "I") (List.mem_of_getElem? (i := 1) rfl)) (fun _ h9 => h9) rfl (by decide +kernel) rfl rfl (Nat.le_of_ble_eq_true rfl) dX0_end_2 (fun H1 locs hP hD hS => ?_)
  have hP : va_P (dC, dI) vwCl (cFd a cI (sU M 11 1 0)) H1 := hP
  have hD : va_D (va_A (cFd a cI M) s.heap.size) (cFd a cI (sU M 11 1 0)) := hD
  obtain ⟨Mn2, eMn2⟩ : ∃ z : SR, z = sU M 11 1 0 := ⟨_, rfl⟩
  rw [sLet_eq, ← eMn2] at hR
  rw [← eMn2] at hP hD
  have ht3 : Mn2 11 0 = M 11 0 := (by rw [eMn2]; exact ht_0)
  refine lv_aload_n hx hb dX0_end_5 rfl (lv_at hl 0 rfl) ?_
  refine lv_iconst (v := 0) hx hb dX0_end_6 (by decide) ?_
  refine va_put (D := (dC, dI)) (ci := 0) (v := .int 0) (ty := .int) (C := RX0) (T := TX0) (N := 5) hx hb hts hin0 tyX0 tyX0_ok nmX0 hown hK hP hD hS 0 rfl rfl 2 (by decide) (hts (.fieldLink RX0 22 "FeedDesk$Fade" "ticks" "I") (List.mem_of_getElem? (i := 2) rfl)) (fun _ h9 => h9) rfl (by decide +kernel) rfl rfl (Nat.le_of_ble_eq_true rfl) dX0_end_7 (fun H4 locs hP hD hS => ?_)
  have hP : va_P (dC, dI) vwCl (cFd a cI (sU Mn2 11 2 0)) H4 := hP
  have hD : va_D (va_A (cFd a cI M) s.heap.size) (cFd a cI (sU Mn2 11 2 0)) := hD
  obtain ⟨Mn5, eMn5⟩ : ∃ z : SR, z = sU Mn2 11 2 0 := ⟨_, rfl⟩
  rw [sLet_eq, ← eMn5] at hR
  rw [← eMn5] at hP hD
  have ht6 : Mn5 11 0 = M 11 0 := (by rw [eMn5]; exact ht3)
  refine lv_aload_n hx hb dX0_end_10 rfl (lv_at hl 0 rfl) ?_
  refine lv_iconst (v := 0) hx hb dX0_end_11 (by decide) ?_
  refine va_put (D := (dC, dI)) (ci := 0) (v := .int 0) (ty := .int) (C := RX0) (T := TX0) (N := 5) hx hb hts hin0 tyX0 tyX0_ok nmX0 hown hK hP hD hS 0 rfl rfl 3 (by decide) (hts (.fieldLink RX0 25 "FeedDesk$Fade" "touched" "I") (List.mem_of_getElem? (i := 3) rfl)) (fun _ h9 => h9) rfl (by decide +kernel) rfl rfl (Nat.le_of_ble_eq_true rfl) dX0_end_12 (fun H7 locs hP hD hS => ?_)
  have hP : va_P (dC, dI) vwCl (cFd a cI (sU Mn5 11 3 0)) H7 := hP
  have hD : va_D (va_A (cFd a cI M) s.heap.size) (cFd a cI (sU Mn5 11 3 0)) := hD
  obtain ⟨Mn8, eMn8⟩ : ∃ z : SR, z = sU Mn5 11 3 0 := ⟨_, rfl⟩
  rw [sLet_eq, ← eMn8] at hR
  rw [← eMn8] at hP hD
  have ht9 : Mn8 11 0 = M 11 0 := (by rw [eMn8]; exact ht6)
  exact W.vret hx hb hr (fun t ht hWw => ⟨⟨Mn8, rfl, ⟨hR.symm.trans eR, ht9⟩, by rw [ht]; exact hP, hD⟩, hS.F ht⟩) hS.2.2 dX0_end_15
abbrev rm_X0_isGoingOn : Room := { frames := 0, cells := 0, slots := 0, locals := 0 }
def f_X0_isGoingOn (M : SR)  : Int32 := (if (M 11 2) ≤ 0 then 0 else 1)
set_option maxHeartbeats 4000000 in
set_option maxRecDepth 100000 in
theorem c_X0_isGoingOn (l : Launch) (dC : Nat → ClassId) (dI : Nat → Nat → Nat) (cI cC cS : ClassId) (a : Nat → Nat) (M : SR) (sz : Nat)   : Met l yX0_isGoingOn wsX0_isGoingOn rm_X0_isGoingOn (PcG (dC, dI) (tyL cI cC cS) (cFd a cI M) sz [.ref (a 0)]) (va_Qi (fun (r : Int32) (_ : Unit) => r = f_X0_isGoingOn M ∧ (r = 0 ∨ r = 1)) (fun _ _ => True) (va_A [] sz)) 0 0 (va_A [] sz) := by
  refine Met.ofW (cc := cX0_isGoingOn) (maxL := 1) (ret := (some .boolean)) (by decide) rfl ?_
  intro p e s m args below meth c s₁ B hml hv
  obtain ⟨rfl, hsz, hP, hK, hD0, hN⟩ := hv
  have hx := B.exec
  have hb := B.bytes
  have hr := B.returns
  have hts := atoms_spec (ws := wsX0_isGoingOn) B.pre
  have hown : s.vm.findClass RX0 = some m.cls := findClass_of_methodNamed B.named
  have hlocks := B.notSynchronized
  subst hsz
  have hA : ∀ q : Nat, s.heap.size ≤ q → (va_A [] s.heap.size) q := fun q h => Or.inr h
  have hS : va_S (va_A [] s.heap.size) s.heap s.heap [] := va_S.rf
  have hin0 : ∀ w ∈ wsX00, w ∈ wsX0_isGoingOn := fun _ h => List.mem_cons_of_mem _ (List.mem_append_right _ h)
  have hl := lv_entry [.ref (a 0)] (n := 1) (Nat.le_of_ble_eq_true rfl)
  rw [lg_entry_eq]
  generalize (lg_sl [.ref (a 0)] ++ List.replicate (1 - (lg_sl [.ref (a 0)]).length) Slot.unset).toArray = ls at hl ⊢
  have hl : lv_has ls 1 [(0, .ref (a 0))] := hl
  obtain ⟨R0, eR⟩ : ∃ z, z = f_X0_isGoingOn M := ⟨_, rfl⟩
  have hR := eR
  rw [f_X0_isGoingOn] at hR
  refine lv_aload_n hx hb dX0_isGoingOn_0 rfl (lv_at hl 0 rfl) ?_
  refine va_get (D := (dC, dI)) (ci := 0) (v := .int (M 11 2)) (C := RX0) (T := TX0) (N := 5) hx hb hts hin0 hown hK hP 0 rfl rfl 2 (by decide) (hts (.fieldLink RX0 22 "FeedDesk$Fade" "ticks" "I") (List.mem_of_getElem? (i := 1) rfl)) (fun _ h9 => h9) rfl dX0_isGoingOn_1 ?_
  refine lv_if_le (tgt := 11) hx hb dX0_isGoingOn_4 (by decide) (fun c1 => ?_) (fun c1 => ?_)
  · rw [if_pos c1] at hR
    refine lv_iconst (v := 0) hx hb dX0_isGoingOn_11 (by decide) ?_
    exact W.zret (v := 0) hx hb hr rfl (fun t ht hWw => ⟨⟨0, (), rfl, ⟨hR.symm.trans eR, (Or.inl rfl)⟩, trivial⟩, hS.F ht⟩) hS.2.2 dX0_isGoingOn_12
  · rw [if_neg c1] at hR
    refine lv_iconst (v := 1) hx hb dX0_isGoingOn_7 (by decide) ?_
    refine lv_goto (tgt := 12) hx hb dX0_isGoingOn_8 (by decide) ?_
    exact W.zret (v := 1) hx hb hr rfl (fun t ht hWw => ⟨⟨1, (), rfl, ⟨hR.symm.trans eR, (Or.inr rfl)⟩, trivial⟩, hS.F ht⟩) hS.2.2 dX0_isGoingOn_12
abbrev rm_X0_touch : Room := { frames := 1, cells := 0, slots := 0, locals := 20 }
def f_X0_touch (M : SR) (p1 : Int32) : SR := (if (f_X0_isGoingOn M) = 0 then M else sLet (sU M 11 3 ((M 11 3) ||| (1 <<< (p1 &&& 31)))) (fun Mn6 : SR => Mn6))
set_option maxHeartbeats 4000000 in
set_option maxRecDepth 100000 in
theorem c_X0_touch (l : Launch) (dC : Nat → ClassId) (dI : Nat → Nat → Nat) (cI cC cS : ClassId) (a : Nat → Nat) (M : SR) (sz : Nat) (p1 : Int32)  : Met l yX0_touch wsX0_touch rm_X0_touch (PcG (dC, dI) (tyL cI cC cS) (cFd a cI M) sz [.ref (a 0), .int p1]) (va_Qv (fun (u : SR) => u = f_X0_touch M p1 ∧ (u 11 0 = M 11 0)) (fun u U => va_P (dC, dI) vwCl (cFd a cI u) U.heap ∧ va_D (va_A (cFd a cI M) sz) (cFd a cI u)) (va_A (cFd a cI M) sz)) 0 0 (va_A (cFd a cI M) sz) := by
  refine Met.ofW (cc := cX0_touch) (maxL := 2) (ret := none) (by decide) rfl ?_
  intro p e s m args below meth c s₁ B hml hv
  obtain ⟨rfl, hsz, hP, hK, hD0, hN⟩ := hv
  have hx := B.exec
  have hb := B.bytes
  have hr := B.returns
  have hts := atoms_spec (ws := wsX0_touch) B.pre
  have hown : s.vm.findClass RX0 = some m.cls := findClass_of_methodNamed B.named
  have hlocks := B.notSynchronized
  subst hsz
  have hD := hD0.self (sz := s.heap.size)
  have hA : ∀ q : Nat, s.heap.size ≤ q → (va_A (cFd a cI M) s.heap.size) q := fun q h => Or.inr h
  have hS : va_S (va_A (cFd a cI M) s.heap.size) s.heap s.heap [] := va_S.rf
  have hin0 : ∀ w ∈ wsX00, w ∈ wsX0_touch := fun _ h => List.mem_cons_of_mem _ (List.mem_append_right _ h)
  have ht_0 : M 11 0 = M 11 0 := rfl
  have hl := lv_entry [.ref (a 0), .int p1] (n := 2) (Nat.le_of_ble_eq_true rfl)
  rw [lg_entry_eq]
  generalize (lg_sl [.ref (a 0), .int p1] ++ List.replicate (2 - (lg_sl [.ref (a 0), .int p1]).length) Slot.unset).toArray = ls at hl ⊢
  have hl : lv_has ls 2 [(0, .ref (a 0)), (1, .int p1)] := hl
  obtain ⟨R0, eR⟩ : ∃ z, z = f_X0_touch M p1 := ⟨_, rfl⟩
  have hR := eR
  rw [f_X0_touch] at hR
  refine lv_aload_n hx hb dX0_touch_0 rfl (lv_at hl 0 rfl) ?_
  have hPc : va_P (dC, dI) vwCl (cFd a cI M) s.heap := hP.sub [0, 1] rfl
  have hDc : va_D (va_A (cFd a cI M) s.heap.size) (cFd a cI M) := hD.sub [0, 1] (by decide) rfl
  have hFc : ∀ q : Nat, va_A [] s.heap.size q → (va_A (cFd a cI M) s.heap.size) q := roF hS hA
  refine va_calli (va_runV (As := []) (rest := []) ⟨hx, hb, hml, hown, hts⟩ (c_X0_isGoingOn l dC dI cI cC cS a M s.heap.size) (cwV 0 hts gX0_touch_X0_isGoingOn rfl rfl rfl (by decide +kernel) ⟨Nat.le_of_ble_eq_true rfl, Nat.le_of_ble_eq_true rfl⟩) (pV (q0 := 0) hK hPc hDc hN rfl rfl) rfl rfl hl.1 rfl (lv_room (Nat.le_of_ble_eq_true rfl)) dX0_touch_1 ⟨Nat.le_of_ble_eq_true rfl, Nat.le_of_ble_eq_true rfl⟩) hS (fun q _ h => hFc q h) hFc (fun r_1 u_1 t_1 H2 locs ht hvm hw hB hz1 hk1 hS => ?_)
  obtain ⟨hw, hre3⟩ := hw
  subst hw
  have hP := ro_keep hP hk1
  refine lv_if_eq (tgt := 19) hx hb dX0_touch_4 (by decide) (fun c4 => ?_) (fun c4 => ?_)
  · rw [if_pos c4] at hR
    exact W.vret hx hb hr (fun t ht hWw => ⟨⟨M, rfl, ⟨hR.symm.trans eR, ht_0⟩, by rw [ht]; exact hP, hD⟩, hS.F ht⟩) hS.2.2 dX0_touch_19
  · rw [if_neg c4] at hR
    refine lv_aload_n hx hb dX0_touch_7 rfl (lv_at hl 0 rfl) ?_
    refine lv_dup hx hb dX0_touch_8 rfl ?_
    refine va_get (D := (dC, dI)) (ci := 0) (v := .int (M 11 3)) (C := RX0) (T := TX0) (N := 5) hx hb hts hin0 hown hK hP 0 rfl rfl 3 (by decide) (hts (.fieldLink RX0 25 "FeedDesk$Fade" "touched" "I") (List.mem_of_getElem? (i := 1) rfl)) (fun _ h9 => h9) rfl dX0_touch_9 ?_
    refine lv_iconst (v := 1) hx hb dX0_touch_12 (by decide) ?_
    refine lv_iload_n hx hb dX0_touch_13 rfl (lv_at hl 1 rfl) ?_
    refine lv_ishl hx hb dX0_touch_14 ?_
    refine lv_ior hx hb dX0_touch_15 ?_
    refine va_put (D := (dC, dI)) (ci := 0) (v := .int ((M 11 3) ||| (1 <<< (p1 &&& 31)))) (ty := .int) (C := RX0) (T := TX0) (N := 5) hx hb hts hin0 tyX0 tyX0_ok nmX0 hown hK hP hD hS 0 rfl rfl 3 (by decide) (hts (.fieldLink RX0 25 "FeedDesk$Fade" "touched" "I") (List.mem_of_getElem? (i := 1) rfl)) (fun _ h9 => h9) rfl (by decide +kernel) rfl rfl (Nat.le_of_ble_eq_true rfl) dX0_touch_16 (fun H5 locs hP hD hS => ?_)
    have hP : va_P (dC, dI) vwCl (cFd a cI (sU M 11 3 ((M 11 3) ||| (1 <<< (p1 &&& 31))))) H5 := hP
    have hD : va_D (va_A (cFd a cI M) s.heap.size) (cFd a cI (sU M 11 3 ((M 11 3) ||| (1 <<< (p1 &&& 31))))) := hD
    obtain ⟨Mn6, eMn6⟩ : ∃ z : SR, z = sU M 11 3 ((M 11 3) ||| (1 <<< (p1 &&& 31))) := ⟨_, rfl⟩
    rw [sLet_eq, ← eMn6] at hR
    rw [← eMn6] at hP hD
    have ht7 : Mn6 11 0 = M 11 0 := (by rw [eMn6]; exact ht_0)
    exact W.vret hx hb hr (fun t ht hWw => ⟨⟨Mn6, rfl, ⟨hR.symm.trans eR, ht7⟩, by rw [ht]; exact hP, hD⟩, hS.F ht⟩) hS.2.2 dX0_touch_19
abbrev rm_X0_isTouched : Room := { frames := 1, cells := 0, slots := 0, locals := 21 }
def f_X0_isTouched (M : SR) (p1 : Int32) : Int32 := f_X5_hasBit (M 11 3) p1
set_option maxHeartbeats 4000000 in
set_option maxRecDepth 100000 in
theorem c_X0_isTouched (l : Launch) (dC : Nat → ClassId) (dI : Nat → Nat → Nat) (cI cC cS : ClassId) (a : Nat → Nat) (M : SR) (sz : Nat) (p1 : Int32)  : Met l yX0_isTouched wsX0_isTouched rm_X0_isTouched (PcG (dC, dI) (tyL cI cC cS) (cFd a cI M) sz [.ref (a 0), .int p1]) (va_Qi (fun (r : Int32) (_ : Unit) => r = f_X0_isTouched M p1 ∧ (r = 0 ∨ r = 1)) (fun _ _ => True) (va_A [] sz)) 0 0 (va_A [] sz) := by
  refine Met.ofW (cc := cX0_isTouched) (maxL := 2) (ret := (some .boolean)) (by decide) rfl ?_
  intro p e s m args below meth c s₁ B hml hv
  obtain ⟨rfl, hsz, hP, hK, hD0, hN⟩ := hv
  have hx := B.exec
  have hb := B.bytes
  have hr := B.returns
  have hts := atoms_spec (ws := wsX0_isTouched) B.pre
  have hown : s.vm.findClass RX0 = some m.cls := findClass_of_methodNamed B.named
  have hlocks := B.notSynchronized
  subst hsz
  have hA : ∀ q : Nat, s.heap.size ≤ q → (va_A [] s.heap.size) q := fun q h => Or.inr h
  have hS : va_S (va_A [] s.heap.size) s.heap s.heap [] := va_S.rf
  have hin0 : ∀ w ∈ wsX00, w ∈ wsX0_isTouched := fun _ h => List.mem_cons_of_mem _ (List.mem_append_right _ h)
  have hl := lv_entry [.ref (a 0), .int p1] (n := 2) (Nat.le_of_ble_eq_true rfl)
  rw [lg_entry_eq]
  generalize (lg_sl [.ref (a 0), .int p1] ++ List.replicate (2 - (lg_sl [.ref (a 0), .int p1]).length) Slot.unset).toArray = ls at hl ⊢
  have hl : lv_has ls 2 [(0, .ref (a 0)), (1, .int p1)] := hl
  obtain ⟨R0, eR⟩ : ∃ z, z = f_X0_isTouched M p1 := ⟨_, rfl⟩
  have hR := eR
  rw [f_X0_isTouched] at hR
  refine lv_aload_n hx hb dX0_isTouched_0 rfl (lv_at hl 0 rfl) ?_
  refine va_get (D := (dC, dI)) (ci := 0) (v := .int (M 11 3)) (C := RX0) (T := TX0) (N := 5) hx hb hts hin0 hown hK hP 0 rfl rfl 3 (by decide) (hts (.fieldLink RX0 25 "FeedDesk$Fade" "touched" "I") (List.mem_of_getElem? (i := 1) rfl)) (fun _ h9 => h9) rfl dX0_isTouched_1 ?_
  refine lv_iload_n hx hb dX0_isTouched_4 rfl (lv_at hl 1 rfl) ?_
  have hFc : ∀ q : Nat, va_A [] s.heap.size q → (va_A [] s.heap.size) q := roF hS hA
  refine va_calli (va_runSN (As := [.int (M 11 3), .int p1]) (rest := []) ⟨hx, hb, hml, hown, hts⟩ (c_X5_hasBit l dC dI cI cC cS s.heap.size (M 11 3) p1) ⟨va_cnB 2 hts gX0_isTouched_X5_hasBit_n38 rfl rfl rfl (hN.at 4 rfl) (hts (.initialized RX5) (List.mem_of_getElem? (i := 3) rfl)) (by decide +kernel) ⟨Nat.le_of_ble_eq_true rfl, Nat.le_of_ble_eq_true rfl⟩, (hts (.static yX5_hasBit) (List.mem_of_getElem? (i := 2) rfl)), trivial⟩ (pS hK (va_P_nil) (va_D_nil) hN) rfl rfl hl.1 rfl (lv_room (Nat.le_of_ble_eq_true rfl)) dX0_isTouched_5 ⟨Nat.le_of_ble_eq_true rfl, Nat.le_of_ble_eq_true rfl⟩) hS (fun q _ h => hFc q h) hFc (fun r_1 u_1 t_1 H2 locs ht hvm hw hB hz1 hk1 hS => ?_)
  obtain ⟨hw, hre3⟩ := hw
  subst hw
  have hP := ro_keep hP hk1
  exact W.zret (v := f_X5_hasBit (M 11 3) p1) hx hb hr (nar_bool hre3) (fun t ht hWw => ⟨⟨f_X5_hasBit (M 11 3) p1, (), rfl, ⟨hR.symm.trans eR, hre3⟩, trivial⟩, hS.F ht⟩) hS.2.2 dX0_isTouched_8
abbrev rm_X0_isInTheMiddle : Room := { frames := 0, cells := 0, slots := 0, locals := 0 }
def f_X0_isInTheMiddle (M : SR)  : Int32 := (if (2 * (M 11 1)) = (M 11 2) then 1 else (if (2 * (M 11 1)) = ((M 11 2) + 1) then 1 else 0))
set_option maxHeartbeats 4000000 in
set_option maxRecDepth 100000 in
theorem c_X0_isInTheMiddle (l : Launch) (dC : Nat → ClassId) (dI : Nat → Nat → Nat) (cI cC cS : ClassId) (a : Nat → Nat) (M : SR) (sz : Nat)   : Met l yX0_isInTheMiddle wsX0_isInTheMiddle rm_X0_isInTheMiddle (PcG (dC, dI) (tyL cI cC cS) (cFd a cI M) sz [.ref (a 0)]) (va_Qi (fun (r : Int32) (_ : Unit) => r = f_X0_isInTheMiddle M ∧ (r = 0 ∨ r = 1)) (fun _ _ => True) (va_A [] sz)) 0 0 (va_A [] sz) := by
  refine Met.ofW (cc := cX0_isInTheMiddle) (maxL := 1) (ret := (some .boolean)) (by decide) rfl ?_
  intro p e s m args below meth c s₁ B hml hv
  obtain ⟨rfl, hsz, hP, hK, hD0, hN⟩ := hv
  have hx := B.exec
  have hb := B.bytes
  have hr := B.returns
  have hts := atoms_spec (ws := wsX0_isInTheMiddle) B.pre
  have hown : s.vm.findClass RX0 = some m.cls := findClass_of_methodNamed B.named
  have hlocks := B.notSynchronized
  subst hsz
  have hA : ∀ q : Nat, s.heap.size ≤ q → (va_A [] s.heap.size) q := fun q h => Or.inr h
  have hS : va_S (va_A [] s.heap.size) s.heap s.heap [] := va_S.rf
  have hin0 : ∀ w ∈ wsX00, w ∈ wsX0_isInTheMiddle := fun _ h => List.mem_cons_of_mem _ (List.mem_append_right _ h)
  have hl := lv_entry [.ref (a 0)] (n := 1) (Nat.le_of_ble_eq_true rfl)
  rw [lg_entry_eq]
  generalize (lg_sl [.ref (a 0)] ++ List.replicate (1 - (lg_sl [.ref (a 0)]).length) Slot.unset).toArray = ls at hl ⊢
  have hl : lv_has ls 1 [(0, .ref (a 0))] := hl
  obtain ⟨R0, eR⟩ : ∃ z, z = f_X0_isInTheMiddle M := ⟨_, rfl⟩
  have hR := eR
  rw [f_X0_isInTheMiddle] at hR
  refine lv_iconst (v := 2) hx hb dX0_isInTheMiddle_0 (by decide) ?_
  refine lv_aload_n hx hb dX0_isInTheMiddle_1 rfl (lv_at hl 0 rfl) ?_
  refine va_get (D := (dC, dI)) (ci := 0) (v := .int (M 11 1)) (C := RX0) (T := TX0) (N := 5) hx hb hts hin0 hown hK hP 0 rfl rfl 1 (by decide) (hts (.fieldLink RX0 19 "FeedDesk$Fade" "step" "I") (List.mem_of_getElem? (i := 1) rfl)) (fun _ h9 => h9) rfl dX0_isInTheMiddle_2 ?_
  refine lv_imul hx hb dX0_isInTheMiddle_5 ?_
  refine lv_aload_n hx hb dX0_isInTheMiddle_6 rfl (lv_at hl 0 rfl) ?_
  refine va_get (D := (dC, dI)) (ci := 0) (v := .int (M 11 2)) (C := RX0) (T := TX0) (N := 5) hx hb hts hin0 hown hK hP 0 rfl rfl 2 (by decide) (hts (.fieldLink RX0 22 "FeedDesk$Fade" "ticks" "I") (List.mem_of_getElem? (i := 2) rfl)) (fun _ h9 => h9) rfl dX0_isInTheMiddle_7 ?_
  refine lv_icmp_eq (tgt := 28) hx hb dX0_isInTheMiddle_10 (by decide) (fun c1 => ?_) (fun c1 => ?_)
  · rw [if_pos c1] at hR
    refine lv_iconst (v := 1) hx hb dX0_isInTheMiddle_28 (by decide) ?_
    refine lv_goto (tgt := 33) hx hb dX0_isInTheMiddle_29 (by decide) ?_
    exact W.zret (v := 1) hx hb hr rfl (fun t ht hWw => ⟨⟨1, (), rfl, ⟨hR.symm.trans eR, (Or.inr rfl)⟩, trivial⟩, hS.F ht⟩) hS.2.2 dX0_isInTheMiddle_33
  · rw [if_neg c1] at hR
    refine lv_iconst (v := 2) hx hb dX0_isInTheMiddle_13 (by decide) ?_
    refine lv_aload_n hx hb dX0_isInTheMiddle_14 rfl (lv_at hl 0 rfl) ?_
    refine va_get (D := (dC, dI)) (ci := 0) (v := .int (M 11 1)) (C := RX0) (T := TX0) (N := 5) hx hb hts hin0 hown hK hP 0 rfl rfl 1 (by decide) (hts (.fieldLink RX0 19 "FeedDesk$Fade" "step" "I") (List.mem_of_getElem? (i := 1) rfl)) (fun _ h9 => h9) rfl dX0_isInTheMiddle_15 ?_
    refine lv_imul hx hb dX0_isInTheMiddle_18 ?_
    refine lv_aload_n hx hb dX0_isInTheMiddle_19 rfl (lv_at hl 0 rfl) ?_
    refine va_get (D := (dC, dI)) (ci := 0) (v := .int (M 11 2)) (C := RX0) (T := TX0) (N := 5) hx hb hts hin0 hown hK hP 0 rfl rfl 2 (by decide) (hts (.fieldLink RX0 22 "FeedDesk$Fade" "ticks" "I") (List.mem_of_getElem? (i := 2) rfl)) (fun _ h9 => h9) rfl dX0_isInTheMiddle_20 ?_
    refine lv_iconst (v := 1) hx hb dX0_isInTheMiddle_23 (by decide) ?_
    refine lv_iadd hx hb dX0_isInTheMiddle_24 ?_
    refine lv_icmp_ne (tgt := 32) hx hb dX0_isInTheMiddle_25 (by decide) (fun c2 => ?_) (fun c2 => ?_)
    · rw [if_neg c2] at hR
      refine lv_iconst (v := 0) hx hb dX0_isInTheMiddle_32 (by decide) ?_
      exact W.zret (v := 0) hx hb hr rfl (fun t ht hWw => ⟨⟨0, (), rfl, ⟨hR.symm.trans eR, (Or.inl rfl)⟩, trivial⟩, hS.F ht⟩) hS.2.2 dX0_isInTheMiddle_33
    · rw [if_pos c2] at hR
      refine lv_iconst (v := 1) hx hb dX0_isInTheMiddle_28 (by decide) ?_
      refine lv_goto (tgt := 33) hx hb dX0_isInTheMiddle_29 (by decide) ?_
      exact W.zret (v := 1) hx hb hr rfl (fun t ht hWw => ⟨⟨1, (), rfl, ⟨hR.symm.trans eR, (Or.inr rfl)⟩, trivial⟩, hS.F ht⟩) hS.2.2 dX0_isInTheMiddle_33
abbrev rm_X0_positionOf : Room := { frames := 0, cells := 0, slots := 0, locals := 0 }
def f_X0_positionOf (M : SR) (p1 : Int32) (p2 : Int32) : Int32 := (if 0 < (M 11 2) then (M 9 p1.toNatClampNeg) + (((p2 - (M 9 p1.toNatClampNeg)) * (M 11 1)) / (M 11 2)) else p2)
set_option maxHeartbeats 4000000 in
set_option maxRecDepth 100000 in
theorem c_X0_positionOf (l : Launch) (dC : Nat → ClassId) (dI : Nat → Nat → Nat) (cI cC cS : ClassId) (a : Nat → Nat) (M : SR) (sz : Nat) (p1 : Int32) (p2 : Int32) (h1 : vp_in p1 16) : Met l yX0_positionOf wsX0_positionOf rm_X0_positionOf (PcG (dC, dI) (tyL cI cC cS) (cFd a cI M) sz [.ref (a 0), .int p1, .int p2]) (va_Qi (fun (r : Int32) (_ : Unit) => r = f_X0_positionOf M p1 p2) (fun _ _ => True) (va_A [] sz)) 0 0 (va_A [] sz) := by
  refine Met.ofW (cc := cX0_positionOf) (maxL := 3) (ret := (some .int)) (by decide) rfl ?_
  intro p e s m args below meth c s₁ B hml hv
  obtain ⟨rfl, hsz, hP, hK, hD0, hN⟩ := hv
  have hx := B.exec
  have hb := B.bytes
  have hr := B.returns
  have hts := atoms_spec (ws := wsX0_positionOf) B.pre
  have hown : s.vm.findClass RX0 = some m.cls := findClass_of_methodNamed B.named
  have hlocks := B.notSynchronized
  subst hsz
  have hA : ∀ q : Nat, s.heap.size ≤ q → (va_A [] s.heap.size) q := fun q h => Or.inr h
  have hS : va_S (va_A [] s.heap.size) s.heap s.heap [] := va_S.rf
  have hin0 : ∀ w ∈ wsX00, w ∈ wsX0_positionOf := fun _ h => List.mem_cons_of_mem _ (List.mem_append_right _ h)
  have hl := lv_entry [.ref (a 0), .int p1, .int p2] (n := 3) (Nat.le_of_ble_eq_true rfl)
  rw [lg_entry_eq]
  generalize (lg_sl [.ref (a 0), .int p1, .int p2] ++ List.replicate (3 - (lg_sl [.ref (a 0), .int p1, .int p2]).length) Slot.unset).toArray = ls at hl ⊢
  have hl : lv_has ls 3 [(0, .ref (a 0)), (1, .int p1), (2, .int p2)] := hl
  obtain ⟨R0, eR⟩ : ∃ z, z = f_X0_positionOf M p1 p2 := ⟨_, rfl⟩
  have hR := eR
  rw [f_X0_positionOf] at hR
  refine lv_aload_n hx hb dX0_positionOf_0 rfl (lv_at hl 0 rfl) ?_
  refine va_get (D := (dC, dI)) (ci := 0) (v := .int (M 11 2)) (C := RX0) (T := TX0) (N := 5) hx hb hts hin0 hown hK hP 0 rfl rfl 2 (by decide) (hts (.fieldLink RX0 22 "FeedDesk$Fade" "ticks" "I") (List.mem_of_getElem? (i := 1) rfl)) (fun _ h9 => h9) rfl dX0_positionOf_1 ?_
  refine lv_if_gt (tgt := 9) hx hb dX0_positionOf_4 (by decide) (fun c1 => ?_) (fun c1 => ?_)
  · rw [if_pos c1] at hR
    refine lv_aload_n hx hb dX0_positionOf_9 rfl (lv_at hl 0 rfl) ?_
    refine va_get (D := (dC, dI)) (ci := 0) (v := .ref (a 1)) (C := RX0) (T := TX0) (N := 5) hx hb hts hin0 hown hK hP 0 rfl rfl 4 (by decide) (hts (.fieldLink RX0 9 "FeedDesk$Fade" "from" "[I") (List.mem_of_getElem? (i := 2) rfl)) (fun _ h9 => h9) rfl dX0_positionOf_10 ?_
    refine lv_iload_n hx hb dX0_positionOf_13 rfl (lv_at hl 1 rfl) ?_
    refine va_iald (f := M 9) hx hb hK hP 1 0 rfl rfl h1 dX0_positionOf_14 ?_
    refine lv_iload_n hx hb dX0_positionOf_15 rfl (lv_at hl 2 rfl) ?_
    refine lv_aload_n hx hb dX0_positionOf_16 rfl (lv_at hl 0 rfl) ?_
    refine va_get (D := (dC, dI)) (ci := 0) (v := .ref (a 1)) (C := RX0) (T := TX0) (N := 5) hx hb hts hin0 hown hK hP 0 rfl rfl 4 (by decide) (hts (.fieldLink RX0 9 "FeedDesk$Fade" "from" "[I") (List.mem_of_getElem? (i := 2) rfl)) (fun _ h9 => h9) rfl dX0_positionOf_17 ?_
    refine lv_iload_n hx hb dX0_positionOf_20 rfl (lv_at hl 1 rfl) ?_
    refine va_iald (f := M 9) hx hb hK hP 1 0 rfl rfl h1 dX0_positionOf_21 ?_
    refine lv_isub hx hb dX0_positionOf_22 ?_
    refine lv_aload_n hx hb dX0_positionOf_23 rfl (lv_at hl 0 rfl) ?_
    refine va_get (D := (dC, dI)) (ci := 0) (v := .int (M 11 1)) (C := RX0) (T := TX0) (N := 5) hx hb hts hin0 hown hK hP 0 rfl rfl 1 (by decide) (hts (.fieldLink RX0 19 "FeedDesk$Fade" "step" "I") (List.mem_of_getElem? (i := 3) rfl)) (fun _ h9 => h9) rfl dX0_positionOf_24 ?_
    refine lv_imul hx hb dX0_positionOf_27 ?_
    refine lv_aload_n hx hb dX0_positionOf_28 rfl (lv_at hl 0 rfl) ?_
    refine va_get (D := (dC, dI)) (ci := 0) (v := .int (M 11 2)) (C := RX0) (T := TX0) (N := 5) hx hb hts hin0 hown hK hP 0 rfl rfl 2 (by decide) (hts (.fieldLink RX0 22 "FeedDesk$Fade" "ticks" "I") (List.mem_of_getElem? (i := 1) rfl)) (fun _ h9 => h9) rfl dX0_positionOf_29 ?_
    refine lv_idiv hx hb dX0_positionOf_32 (ne_of_pos c1) ?_
    refine lv_iadd hx hb dX0_positionOf_33 ?_
    exact W.iret (v := (M 9 p1.toNatClampNeg) + (((p2 - (M 9 p1.toNatClampNeg)) * (M 11 1)) / (M 11 2))) hx hb hr (fun t ht hWw => ⟨⟨(M 9 p1.toNatClampNeg) + (((p2 - (M 9 p1.toNatClampNeg)) * (M 11 1)) / (M 11 2)), (), rfl, hR.symm.trans eR, trivial⟩, hS.F ht⟩) hS.2.2 dX0_positionOf_34
  · rw [if_neg c1] at hR
    refine lv_iload_n hx hb dX0_positionOf_7 rfl (lv_at hl 2 rfl) ?_
    exact W.iret (v := p2) hx hb hr (fun t ht hWw => ⟨⟨p2, (), rfl, hR.symm.trans eR, trivial⟩, hS.F ht⟩) hS.2.2 dX0_positionOf_8
theorem below_vp {x y : Int32} (h : ¬ f_X5_isBelow x y = 0) {n : Nat} (hy : y = nI n := by decide +kernel) (hn : n < 2 ^ 31 := by decide) : vp_in x n := by
  unfold f_X5_isBelow at h
  by_cases c1 : x < 0
  · rw [if_pos c1] at h; exact absurd rfl h
  · rw [if_neg c1] at h
    by_cases c2 : y ≤ x
    · rw [if_pos c2] at h; exact absurd rfl h
    · obtain ⟨j, hj, e⟩ := nI_of c1
      rw [e]
      exact vp_in_nI (lp_ge e hy hj hn c2) hn
theorem within_vp {x y a : Int32} (h : ¬ f_X5_isWithin x a y = 0) {n : Nat} (hn : n < 2 ^ 31) (hy : y = nI n := by decide +kernel) (ha : 0 ≤ a := by decide) : vp_in x (n + 1) := by
  unfold f_X5_isWithin at h
  by_cases c1 : x < a
  · rw [if_pos c1] at h; exact absurd rfl h
  · rw [if_neg c1] at h
    by_cases c2 : y < x
    · rw [if_pos c2] at h; exact absurd rfl h
    · obtain ⟨j, hj, e⟩ := nI_of (x := x) (fun z => c1 (by
        rw [Int32.lt_iff_toInt_lt] at z ⊢
        rw [Int32.le_iff_toInt_le] at ha
        omega))
      have := lp_gt e hy hj hn c2
      rw [e]
      exact fun z => by
        rcases z with z | z
        · exact nI_pos hj z
        · rw [nI_clamp hj] at z; omega
theorem within_m1 {x : Int32} (h : ¬ f_X5_isWithin x (-1) 11 = 0) : x = -1 ∨ vp_in x 12 := by
  unfold f_X5_isWithin at h
  by_cases c1 : x < -1
  · rw [if_pos c1] at h; exact absurd rfl h
  · rw [if_neg c1] at h
    by_cases c2 : 11 < x
    · rw [if_pos c2] at h; exact absurd rfl h
    · rw [Int32.lt_iff_toInt_lt] at c1 c2
      have q1 : (-1 : Int32).toInt = -1 := by decide
      have q2 : (11 : Int32).toInt = 11 := by decide
      rw [q1] at c1
      rw [q2] at c2
      rcases (show x.toInt = -1 ∨ 0 ≤ x.toInt by omega) with h3 | h3
      · exact Or.inl (Int32.toInt_inj.mp (h3.trans q1.symm))
      · exact Or.inr (vp_in_iff.mpr ⟨h3, by omega⟩)
theorem wf_setret {M : SR} (hW : WF M) {k : Nat} {v : Int32} (hv : v = -1 ∨ vp_in v 12) : WF (sU M 5 k v) := by
  refine ⟨fun j hj => ?_, hW.2⟩
  show (if j = k then v else M 5 j) = -1 ∨ vp_in (if j = k then v else M 5 j) 12
  by_cases e : j = k
  · rw [if_pos e]; exact hv
  · rw [if_neg e]; exact hW.1 j hj
theorem si_in {f c : Int32} (hf : vp_in f 4) (hc : vp_in c 12) : vp_in (f_X5_sendIndex f c) 48 := by
  obtain ⟨i, hi, e⟩ := vp_in_of hf (by decide)
  obtain ⟨j, hj, e2⟩ := vp_in_of hc (by decide)
  rw [e, e2]
  exact vp_of_B ((by decide +kernel : ∀ i : Nat, i < 4 → ∀ j : Nat, j < 12 → vp_okB (f_X5_sendIndex (nI i) (nI j)) 48 = true) i hi j hj)
theorem add_in {P : SR} (h : LN P) (c : P 1 0 < 140) : vp_in (P 1 0) 140 := by
  obtain ⟨j, hj, e⟩ := vp_in_of h (by decide)
  rw [e] at c ⊢
  rcases Nat.lt_or_ge j 140 with h1 | h1
  · exact vp_in_nI h1 (by decide)
  · rw [show (140 : Int32) = nI 140 from rfl, nI_ltI (by omega) (by decide)] at c
    omega
theorem add_ln {P : SR} (h : LN P) (c : P 1 0 < 140) {k : Nat} {v : Int32} : LN (sU (sU P 0 k v) 1 0 (P 1 0 + 1)) := by
  show vp_in (P 1 0 + 1) 141
  have h2 := add_in h c
  obtain ⟨j, hj, e⟩ := vp_in_of h2 (by decide)
  rw [e, nI_1]
  exact vp_in_nI (by omega) (by decide)
