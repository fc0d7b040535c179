abbrev rm_J1_canEncode_9a6ad : Room := { frames := 0, cells := 0, slots := 0, locals := 0 }
def f_J1_canEncode_9a6ad  (p1 : Int32) : Int32 := (if p1 < 0 then 0 else (if 255 < p1 then 0 else 1))
set_option maxHeartbeats 4000000 in
set_option maxRecDepth 100000 in
theorem c_J1_canEncode_9a6ad (l : Launch) (dC : Nat → ClassId) (dI : Nat → Nat → Nat) (cI cC cS : ClassId)   (sz : Nat) (p1 : Int32)  : Met l yJ1_canEncode_9a6ad wsJ1_canEncode_9a6ad rm_J1_canEncode_9a6ad (PcG (dC, dI) (tyL cI cC cS) ([]) sz [.int p1]) (va_Qi (fun (r : Int32) (_ : Unit) => r = f_J1_canEncode_9a6ad p1 ∧ (r = 0 ∨ r = 1)) (fun _ _ => True) (va_A [] sz)) 0 0 (va_A [] sz) := by
  refine Met.ofW (cc := cJ1_canEncode_9a6ad) (maxL := 1) (ret := (some .boolean)) (by decide) rfl ?_
  intro p e s m args below meth c s₁ B hml hv
  obtain ⟨rfl, hsz, hP, hK, hD0, hN⟩ := hv
  have hx := B.exec
  have hb := B.bytes
  have hr := B.returns
  have hts := atoms_spec (ws := wsJ1_canEncode_9a6ad) B.pre
  have hown : s.vm.findClass RJ1 = some m.cls := findClass_of_methodNamed B.named
  have hlocks := B.notSynchronized
  subst hsz
  have hA : ∀ q : Nat, s.heap.size ≤ q → (va_A [] s.heap.size) q := fun q h => Or.inr h
  have hS : va_S (va_A [] s.heap.size) s.heap s.heap [] := va_S.rf
  have hl := lv_entry [.int p1] (n := 1) (Nat.le_of_ble_eq_true rfl)
  rw [lg_entry_eq]
  generalize (lg_sl [.int p1] ++ List.replicate (1 - (lg_sl [.int p1]).length) Slot.unset).toArray = ls at hl ⊢
  have hl : lv_has ls 1 [(0, .int p1)] := hl
  obtain ⟨R0, eR⟩ : ∃ z, z = f_J1_canEncode_9a6ad p1 := ⟨_, rfl⟩
  have hR := eR
  rw [f_J1_canEncode_9a6ad] at hR
  refine lv_iload_n hx hb dJ1_canEncode_9a6ad_0 rfl (lv_at hl 0 rfl) ?_
  refine lv_if_lt (tgt := 15) hx hb dJ1_canEncode_9a6ad_1 (by decide) (fun c1 => ?_) (fun c1 => ?_)
  · rw [if_pos c1] at hR
    refine lv_iconst (v := 0) hx hb dJ1_canEncode_9a6ad_15 (by decide) ?_
    exact W.zret (v := 0) hx hb hr rfl (fun t ht hWw => ⟨⟨0, (), rfl, ⟨hR.symm.trans eR, (Or.inl rfl)⟩, trivial⟩, hS.F ht⟩) hS.2.2 dJ1_canEncode_9a6ad_16
  · rw [if_neg c1] at hR
    refine lv_iload_n hx hb dJ1_canEncode_9a6ad_4 rfl (lv_at hl 0 rfl) ?_
    refine lv_sipush (v := 255) hx hb dJ1_canEncode_9a6ad_5 (by decide) ?_
    refine lv_icmp_gt (tgt := 15) hx hb dJ1_canEncode_9a6ad_8 (by decide) (fun c2 => ?_) (fun c2 => ?_)
    · rw [if_pos c2] at hR
      refine lv_iconst (v := 0) hx hb dJ1_canEncode_9a6ad_15 (by decide) ?_
      exact W.zret (v := 0) hx hb hr rfl (fun t ht hWw => ⟨⟨0, (), rfl, ⟨hR.symm.trans eR, (Or.inl rfl)⟩, trivial⟩, hS.F ht⟩) hS.2.2 dJ1_canEncode_9a6ad_16
    · rw [if_neg c2] at hR
      refine lv_iconst (v := 1) hx hb dJ1_canEncode_9a6ad_11 (by decide) ?_
      refine lv_goto (tgt := 16) hx hb dJ1_canEncode_9a6ad_12 (by decide) ?_
      exact W.zret (v := 1) hx hb hr rfl (fun t ht hWw => ⟨⟨1, (), rfl, ⟨hR.symm.trans eR, (Or.inr rfl)⟩, trivial⟩, hS.F ht⟩) hS.2.2 dJ1_canEncode_9a6ad_16
abbrev rm_J1_indexOfChar_4cfef : Room := { frames := 0, cells := 0, slots := 0, locals := 0 }
def f_J1_indexOfChar_4cfef_p7 (p2 : Int32)  : Nat → Int32 → Int32 → Int32
  | 0, _, _ => 0
  | n_7 + 1, x4_7, x5_7 => (if 5 ≤ x5_7 then (-1) else (if (ifI x5_7.toNatClampNeg) = x4_7 then x5_7 else (f_J1_indexOfChar_4cfef_p7 p2 n_7) x4_7 (x5_7 + 1)))
def f_J1_indexOfChar_4cfef  (p2 : Int32) : Int32 := f_J1_indexOfChar_4cfef_p7 p2 6 p2.toInt8.toInt32 0
theorem ix_10 : ∀ q0 : Nat, q0 < 5 → vp_okB ((nI q0)) 5 = true := by decide +kernel
set_option maxHeartbeats 4000000 in
set_option maxRecDepth 100000 in
theorem c_J1_indexOfChar_4cfef (l : Launch) (dC : Nat → ClassId) (dI : Nat → Nat → Nat) (cI cC cS : ClassId) (ks kv : Nat)   (sz : Nat) (p2 : Int32)  : Met l yJ1_indexOfChar_4cfef wsJ1_indexOfChar_4cfef rm_J1_indexOfChar_4cfef (PcJ (dC, dI) (tyL cI cC cS) ks kv sz [.ref (kv), .int p2, .int 0, .int 5] (va_A [] sz)) (va_Qi (fun (r : Int32) (_ : Unit) => r = f_J1_indexOfChar_4cfef p2 ∧ (r = -1 ∨ vp_in r 5)) (fun _ _ => True) (va_A [] sz)) 0 0 (va_A [] sz) := by
  refine Met.ofW (cc := cJ1_indexOfChar_4cfef) (maxL := 6) (ret := (some .int)) (by decide) rfl ?_
  intro p e s m args below meth c s₁ B hml hv
  obtain ⟨rfl, hsz, hK, hN, hJ⟩ := hv
  have hx := B.exec
  have hb := B.bytes
  have hr := B.returns
  have hts := atoms_spec (ws := wsJ1_indexOfChar_4cfef) B.pre
  have hown : s.vm.findClass RJ1 = some m.cls := findClass_of_methodNamed B.named
  have hlocks := B.notSynchronized
  subst hsz
  obtain ⟨hOb, hCo, hVa, hTb, hZs⟩ := id hJ
  have hP : va_P (dC, dI) vwCl [] s.heap := va_P_nil
  have hD0 : va_D (fun _ => True) [] := va_D_nil
  have hA : ∀ q : Nat, s.heap.size ≤ q → (va_A [] s.heap.size) q := fun q h => Or.inr h
  have hS : va_S (va_A [] s.heap.size) s.heap s.heap [] := va_S.rf
  have hl := lv_entry [.ref (kv), .int p2, .int 0, .int 5] (n := 6) (Nat.le_of_ble_eq_true rfl)
  rw [lg_entry_eq]
  generalize (lg_sl [.ref (kv), .int p2, .int 0, .int 5] ++ List.replicate (6 - (lg_sl [.ref (kv), .int p2, .int 0, .int 5]).length) Slot.unset).toArray = ls at hl ⊢
  have hl : lv_has ls 6 [(0, .ref (kv)), (1, .int p2), (2, .int 0), (3, .int 5)] := hl
  obtain ⟨R0, eR⟩ : ∃ z, z = f_J1_indexOfChar_4cfef p2 := ⟨_, rfl⟩
  have hR := eR
  rw [f_J1_indexOfChar_4cfef] at hR
  refine lv_iload_n hx hb dJ1_indexOfChar_4cfef_0 rfl (lv_at hl 1 rfl) ?_
  refine lv_i2b (v := p2.toInt8.toInt32) hx hb dJ1_indexOfChar_4cfef_1 rfl ?_
  refine lv_istore (lv' := [(4, .int p2.toInt8.toInt32), (0, .ref (kv)), (1, .int p2), (2, .int 0), (3, .int 5)]) hx hb dJ1_indexOfChar_4cfef_2 hl (by decide) rfl (fun ls hl => ?_)
  refine lv_iload_n hx hb dJ1_indexOfChar_4cfef_4 rfl (lv_at hl 3 rfl) ?_
  refine lv_istore (lv' := [(5, .int 0), (4, .int p2.toInt8.toInt32), (0, .ref (kv)), (1, .int p2), (2, .int 0), (3, .int 5)]) hx hb dJ1_indexOfChar_4cfef_5 hl (by decide) rfl (fun ls hl => ?_)
  have hL_7 : ∀ n_7 : Nat, ∀ (j_7 : Nat), ∀ (x4_7 : Int32) (x5_7 : Int32) , x5_7 = nI j_7 → j_7 ≤ 5 → 5 < j_7 + n_7 → R0 = f_J1_indexOfChar_4cfef_p7 p2 n_7 x4_7 x5_7 → ∀ (H : Heap) (locs : List Loc) (ls : Array Slot), va_P (dC, dI) vwCl ([]) H → va_S (va_A [] s.heap.size) s.heap H locs → lv_has ls 6 [(0, .ref (kv)), (1, .int p2), (2, .int 0), (3, .int 5), (4, .int x4_7), (5, .int x5_7)] → W p l e (headSpec wsJ1_indexOfChar_4cfef rm_J1_indexOfChar_4cfef).room s m ([.ref (kv), .int p2, .int 0, .int 5] : List Value).toArray below meth c H locs 0 0 (MQ below (va_Qi (fun (r : Int32) (_ : Unit) => r = f_J1_indexOfChar_4cfef p2 ∧ (r = -1 ∨ vp_in r 5)) (fun _ _ => True) (va_A [] s.heap.size)) ([.ref (kv), .int p2, .int 0, .int 5] : List Value).toArray s 0 0 (va_A [] s.heap.size)) (F0 m 7 ls []) := by
    intro n_7
    induction n_7 with
    | zero =>
      intro j_7 x4_7 x5_7 ex5_7 hj0_7 hn_7
      exact absurd hn_7 (by omega)
    | succ n_7 ih_7 =>
      intro j_7 x4_7 x5_7 ex5_7 hj0_7 hn_7 hR H locs ls hP hS hl
      rw [f_J1_indexOfChar_4cfef_p7] at hR
      refine lv_iload hx hb dJ1_indexOfChar_4cfef_7 (lv_at hl 5 rfl) ?_
      refine lv_iload_n hx hb dJ1_indexOfChar_4cfef_9 rfl (lv_at hl 3 rfl) ?_
      refine lv_icmp_ge (tgt := 31) hx hb dJ1_indexOfChar_4cfef_10 (by decide) (fun c1 => ?_) (fun c1 => ?_)
      · rw [if_pos c1] at hR
        refine lv_iconst (v := (-1)) hx hb dJ1_indexOfChar_4cfef_31 (by decide) ?_
        exact W.iret (v := (-1)) hx hb hr (fun t ht hWw => ⟨⟨(-1), (), rfl, ⟨hR.symm.trans eR, (Or.inl rfl)⟩, trivial⟩, hS.F ht⟩) hS.2.2 dJ1_indexOfChar_4cfef_32
      · rw [if_neg c1] at hR
        have hj_7 : j_7 < 5 := lp_ge ex5_7 (by decide +kernel) (by omega) (by omega) c1
        refine lv_aload_n hx hb dJ1_indexOfChar_4cfef_13 rfl (lv_at hl 0 rfl) ?_
        refine lv_iload hx hb dJ1_indexOfChar_4cfef_14 (lv_at hl 5 rfl) ?_
        refine va_tb (v := .int (ifI x5_7.toNatClampNeg)) hx hb hTb hS (by rw [ex5_7]; exact vp_of_B (ix_10 j_7 hj_7)) rfl dJ1_indexOfChar_4cfef_16 ?_
        refine lv_iload hx hb dJ1_indexOfChar_4cfef_17 (lv_at hl 4 rfl) ?_
        refine lv_icmp_ne (tgt := 25) hx hb dJ1_indexOfChar_4cfef_19 (by decide) (fun c2 => ?_) (fun c2 => ?_)
        · rw [if_neg c2] at hR
          refine lv_iinc (v := x5_7 + 1) (lv' := [(5, .int (x5_7 + 1)), (0, .ref (kv)), (1, .int p2), (2, .int 0), (3, .int 5), (4, .int x4_7)]) hx hb dJ1_indexOfChar_4cfef_25 hl (k := 5) rfl rfl (by decide) rfl (fun ls hl => ?_)
          refine lv_goto (tgt := 7) hx hb dJ1_indexOfChar_4cfef_28 (by decide) ?_
          exact ih_7 (j_7 + 1) x4_7 (x5_7 + 1) (by rw [ex5_7, nI_1]) (by omega) (by omega) hR _ _ _ hP hS (lv_sub hl [1, 2, 3, 4, 5, 0] rfl)
        · rw [if_pos c2] at hR
          refine lv_iload hx hb dJ1_indexOfChar_4cfef_22 (lv_at hl 5 rfl) ?_
          exact W.iret (v := x5_7) hx hb hr (fun t ht hWw => ⟨⟨x5_7, (), rfl, ⟨hR.symm.trans eR, (Or.inr (by rw [ex5_7]; exact vp_of_B (ix_10 j_7 hj_7)))⟩, trivial⟩, hS.F ht⟩) hS.2.2 dJ1_indexOfChar_4cfef_24
  exact hL_7 6 0 p2.toInt8.toInt32 0 (by decide +kernel) (by decide) (by decide) hR _ _ _ hP hS (lv_sub hl [2, 3, 4, 5, 1, 0] rfl)
abbrev rm_J1_indexOf_4cfef : Room := { frames := 1, cells := 0, slots := 0, locals := 25 }
def f_J1_indexOf_4cfef  (p2 : Int32) : Int32 := (if (f_J1_canEncode_9a6ad p2) = 0 then (-1) else f_J1_indexOfChar_4cfef p2)
set_option maxHeartbeats 4000000 in
set_option maxRecDepth 100000 in
theorem c_J1_indexOf_4cfef (l : Launch) (dC : Nat → ClassId) (dI : Nat → Nat → Nat) (cI cC cS : ClassId) (ks kv : Nat)   (sz : Nat) (p2 : Int32)  : Met l yJ1_indexOf_4cfef wsJ1_indexOf_4cfef rm_J1_indexOf_4cfef (PcJ (dC, dI) (tyL cI cC cS) ks kv sz [.ref (kv), .int p2, .int 0, .int 5] (va_A [] sz)) (va_Qi (fun (r : Int32) (_ : Unit) => r = f_J1_indexOf_4cfef p2 ∧ (r = -1 ∨ vp_in r 5)) (fun _ _ => True) (va_A [] sz)) 0 0 (va_A [] sz) := by
  refine Met.ofW (cc := cJ1_indexOf_4cfef) (maxL := 4) (ret := (some .int)) (by decide) rfl ?_
  intro p e s m args below meth c s₁ B hml hv
  obtain ⟨rfl, hsz, hK, hN, hJ⟩ := hv
  have hx := B.exec
  have hb := B.bytes
  have hr := B.returns
  have hts := atoms_spec (ws := wsJ1_indexOf_4cfef) B.pre
  have hown : s.vm.findClass RJ1 = some m.cls := findClass_of_methodNamed B.named
  have hlocks := B.notSynchronized
  subst hsz
  obtain ⟨hOb, hCo, hVa, hTb, hZs⟩ := id hJ
  have hP : va_P (dC, dI) vwCl [] s.heap := va_P_nil
  have hD0 : va_D (fun _ => True) [] := va_D_nil
  have hA : ∀ q : Nat, s.heap.size ≤ q → (va_A [] s.heap.size) q := fun q h => Or.inr h
  have hS : va_S (va_A [] s.heap.size) s.heap s.heap [] := va_S.rf
  have hl := lv_entry [.ref (kv), .int p2, .int 0, .int 5] (n := 4) (Nat.le_of_ble_eq_true rfl)
  rw [lg_entry_eq]
  generalize (lg_sl [.ref (kv), .int p2, .int 0, .int 5] ++ List.replicate (4 - (lg_sl [.ref (kv), .int p2, .int 0, .int 5]).length) Slot.unset).toArray = ls at hl ⊢
  have hl : lv_has ls 4 [(0, .ref (kv)), (1, .int p2), (2, .int 0), (3, .int 5)] := hl
  obtain ⟨R0, eR⟩ : ∃ z, z = f_J1_indexOf_4cfef p2 := ⟨_, rfl⟩
  have hR := eR
  rw [f_J1_indexOf_4cfef] at hR
  refine lv_iload_n hx hb dJ1_indexOf_4cfef_0 rfl (lv_at hl 1 rfl) ?_
  have hFc : ∀ q : Nat, va_A [] s.heap.size q → (va_A [] s.heap.size) q := roF hS hA
  refine va_calli (va_runS (As := [.int p2]) (rest := []) ⟨hx, hb, hml, hown, hts⟩ (c_J1_canEncode_9a6ad l dC dI cI cC cS s.heap.size p2) (va_cwS 1 hts gJ1_indexOf_4cfef_J1_canEncode_9a6ad rfl rfl rfl (by decide +kernel) ⟨Nat.le_of_ble_eq_true rfl, Nat.le_of_ble_eq_true rfl⟩) (pS hK (va_P_nil) (va_D_nil) hN) rfl rfl hl.1 rfl (lv_room (Nat.le_of_ble_eq_true rfl)) dJ1_indexOf_4cfef_1 ⟨Nat.le_of_ble_eq_true rfl, Nat.le_of_ble_eq_true rfl⟩) hS (fun q _ h => hFc q h) hFc (fun r_1 u_1 t_1 H2 locs ht hvm hw hB hz1 hk1 hS => ?_)
  obtain ⟨hw, hre3⟩ := hw
  subst hw
  have hP := ro_keep hP hk1
  refine lv_if_ne (tgt := 9) hx hb dJ1_indexOf_4cfef_4 (by decide) (fun c4 => ?_) (fun c4 => ?_)
  · rw [if_neg c4] at hR
    refine lv_iload_n hx hb dJ1_indexOf_4cfef_9 rfl (lv_at hl 2 rfl) ?_
    refine lv_iconst (v := 0) hx hb dJ1_indexOf_4cfef_10 (by decide) ?_
    refine va_mmax hx hb (hml.trans hl.1.symm) hown (hts (.methodLink RJ1 92 Lib.Math.max.name) (List.mem_of_getElem? (i := 1) rfl)) (hts (.static Lib.Math.max.name) (List.mem_of_getElem? (i := 2) rfl)) (hts (.initialized "java/lang/Math") (List.mem_of_getElem? (i := 3) rfl)) (hts (.code Lib.Math.max.name Lib.Math.max.code 2 (some .int)) (List.mem_of_getElem? (i := 4) rfl)) (Nat.le_of_ble_eq_true rfl) (Nat.le_of_ble_eq_true rfl) (Nat.le_of_ble_eq_true rfl) (Nat.le_of_ble_eq_true rfl) dJ1_indexOf_4cfef_11 ?_
    rw [show (if (0 : Int32) < 0 then (0 : Int32) else 0) = (0 : Int32) from by decide]
    refine lv_istore_n (lv' := [(2, .int 0), (0, .ref (kv)), (1, .int p2), (3, .int 5)]) hx hb dJ1_indexOf_4cfef_14 rfl hl (by decide) rfl (fun ls hl => ?_)
    refine lv_iload_n hx hb dJ1_indexOf_4cfef_15 rfl (lv_at hl 3 rfl) ?_
    refine lv_aload_n hx hb dJ1_indexOf_4cfef_16 rfl (lv_at hl 1 rfl) ?_
    refine va_tlen (v := 5) hx hb hTb hS (by decide +kernel) dJ1_indexOf_4cfef_17 ?_
    refine va_mmin hx hb (hml.trans hl.1.symm) hown (hts (.methodLink RJ1 38 Lib.Math.min.name) (List.mem_of_getElem? (i := 5) rfl)) (hts (.static Lib.Math.min.name) (List.mem_of_getElem? (i := 6) rfl)) (hts (.initialized "java/lang/Math") (List.mem_of_getElem? (i := 3) rfl)) (hts (.code Lib.Math.min.name Lib.Math.min.code 2 (some .int)) (List.mem_of_getElem? (i := 7) rfl)) (Nat.le_of_ble_eq_true rfl) (Nat.le_of_ble_eq_true rfl) (Nat.le_of_ble_eq_true rfl) (Nat.le_of_ble_eq_true rfl) dJ1_indexOf_4cfef_18 ?_
    rw [show (if (5 : Int32) < 5 then (5 : Int32) else 5) = (5 : Int32) from by decide]
    refine lv_istore_n (lv' := [(3, .int 5), (2, .int 0), (0, .ref (kv)), (1, .int p2)]) hx hb dJ1_indexOf_4cfef_21 rfl hl (by decide) rfl (fun ls hl => ?_)
    refine lv_iload_n hx hb dJ1_indexOf_4cfef_22 rfl (lv_at hl 1 rfl) ?_
    refine lv_iload_n hx hb dJ1_indexOf_4cfef_23 rfl (lv_at hl 0 rfl) ?_
    refine lv_icmp_lt (tgt := 29) hx hb dJ1_indexOf_4cfef_24 (by decide) (fun c5 => ?_) (fun c5 => ?_)
    · refine lv_aload_n hx hb dJ1_indexOf_4cfef_29 rfl (lv_at hl 2 rfl) ?_
      refine lv_iload_n hx hb dJ1_indexOf_4cfef_30 rfl (lv_at hl 3 rfl) ?_
      refine lv_iload_n hx hb dJ1_indexOf_4cfef_31 rfl (lv_at hl 1 rfl) ?_
      refine lv_iload_n hx hb dJ1_indexOf_4cfef_32 rfl (lv_at hl 0 rfl) ?_
      have hFc : ∀ q : Nat, va_A [] H2.size q → (va_A [] s.heap.size) q := roF hS hA
      refine va_calli (va_runS (As := [.ref (kv), .int p2, .int 0, .int 5]) (rest := []) ⟨hx, hb, hml, hown, hts⟩ (c_J1_indexOfChar_4cfef l dC dI cI cC cS ks kv H2.size p2) (va_cwS 4 hts gJ1_indexOf_4cfef_J1_indexOfChar_4cfef rfl rfl rfl (by decide +kernel) ⟨Nat.le_of_ble_eq_true rfl, Nat.le_of_ble_eq_true rfl⟩) (pJS hK hN hJ hS hFc) rfl rfl hl.1 rfl (lv_room (Nat.le_of_ble_eq_true rfl)) dJ1_indexOf_4cfef_33 ⟨Nat.le_of_ble_eq_true rfl, Nat.le_of_ble_eq_true rfl⟩) hS (fun q _ h => hFc q h) hFc (fun r_6 u_6 t_6 H7 locs ht hvm hw hB hz1 hk1 hS => ?_)
      obtain ⟨hw, hre8⟩ := hw
      subst hw
      have hP := ro_keep hP hk1
      exact W.iret (v := f_J1_indexOfChar_4cfef p2) hx hb hr (fun t ht hWw => ⟨⟨f_J1_indexOfChar_4cfef p2, (), rfl, ⟨hR.symm.trans eR, hre8⟩, trivial⟩, hS.F ht⟩) hS.2.2 dJ1_indexOf_4cfef_36
    · exact absurd c5 (by decide)
  · rw [if_pos c4] at hR
    refine lv_iconst (v := (-1)) hx hb dJ1_indexOf_4cfef_7 (by decide) ?_
    exact W.iret (v := (-1)) hx hb hr (fun t ht hWw => ⟨⟨(-1), (), rfl, ⟨hR.symm.trans eR, (Or.inl rfl)⟩, trivial⟩, hS.F ht⟩) hS.2.2 dJ1_indexOf_4cfef_8
abbrev rm_J0_isLatin1_aae02 : Room := { frames := 0, cells := 0, slots := 0, locals := 0 }
def f_J0_isLatin1_aae02   : Int32 := 1
set_option maxHeartbeats 4000000 in
set_option maxRecDepth 100000 in
theorem c_J0_isLatin1_aae02 (l : Launch) (dC : Nat → ClassId) (dI : Nat → Nat → Nat) (cI cC cS : ClassId) (ks kv : Nat)   (sz : Nat)   : Met l yJ0_isLatin1_aae02 wsJ0_isLatin1_aae02 rm_J0_isLatin1_aae02 (PcJ (dC, dI) (tyL cI cC cS) ks kv sz [.ref (ks)] (va_A [] sz)) (va_Qi (fun (r : Int32) (_ : Unit) => r = f_J0_isLatin1_aae02 ∧ (r = 0 ∨ r = 1)) (fun _ _ => True) (va_A [] sz)) 0 0 (va_A [] sz) := by
  refine Met.ofW (cc := cJ0_isLatin1_aae02) (maxL := 1) (ret := (some .boolean)) (by decide) rfl ?_
  intro p e s m args below meth c s₁ B hml hv
  obtain ⟨rfl, hsz, hK, hN, hJ⟩ := hv
  have hx := B.exec
  have hb := B.bytes
  have hr := B.returns
  have hts := atoms_spec (ws := wsJ0_isLatin1_aae02) B.pre
  have hown : s.vm.findClass RJ0 = some m.cls := findClass_of_methodNamed B.named
  have hlocks := B.notSynchronized
  subst hsz
  obtain ⟨hOb, hCo, hVa, hTb, hZs⟩ := id hJ
  have hP : va_P (dC, dI) vwCl [] s.heap := va_P_nil
  have hD0 : va_D (fun _ => True) [] := va_D_nil
  have hA : ∀ q : Nat, s.heap.size ≤ q → (va_A [] s.heap.size) q := fun q h => Or.inr h
  have hS : va_S (va_A [] s.heap.size) s.heap s.heap [] := va_S.rf
  have hl := lv_entry [.ref (ks)] (n := 1) (Nat.le_of_ble_eq_true rfl)
  rw [lg_entry_eq]
  generalize (lg_sl [.ref (ks)] ++ List.replicate (1 - (lg_sl [.ref (ks)]).length) Slot.unset).toArray = ls at hl ⊢
  have hl : lv_has ls 1 [(0, .ref (ks))] := hl
  obtain ⟨R0, eR⟩ : ∃ z, z = f_J0_isLatin1_aae02 := ⟨_, rfl⟩
  have hR := eR
  rw [f_J0_isLatin1_aae02] at hR
  refine va_gets (v := .int 1) hx hb hZs hS hown (hts (.fieldLink RJ0 38 "java/lang/String" "COMPACT_STRINGS" "Z") (List.mem_of_getElem? (i := 1) rfl)) (fun _ h9 => h9) dJ0_isLatin1_aae02_0 ?_
  refine lv_if_eq (tgt := 17) hx hb dJ0_isLatin1_aae02_3 (by decide) (fun c1 => ?_) (fun c1 => ?_)
  · exact absurd c1 (by decide)
  · refine lv_aload_n hx hb dJ0_isLatin1_aae02_6 rfl (lv_at hl 0 rfl) ?_
    refine vk_getf (v := .int 0) hx hb hCo hS hown (hts (.fieldLink RJ0 15 "java/lang/String" "coder" "B") (List.mem_of_getElem? (i := 2) rfl)) (fun _ h9 => h9) dJ0_isLatin1_aae02_7 ?_
    refine lv_if_ne (tgt := 17) hx hb dJ0_isLatin1_aae02_10 (by decide) (fun c2 => ?_) (fun c2 => ?_)
    · exact absurd c2 (by decide)
    · refine lv_iconst (v := 1) hx hb dJ0_isLatin1_aae02_13 (by decide) ?_
      refine lv_goto (tgt := 18) hx hb dJ0_isLatin1_aae02_14 (by decide) ?_
      exact W.zret (v := 1) hx hb hr rfl (fun t ht hWw => ⟨⟨1, (), rfl, ⟨hR.symm.trans eR, (Or.inr rfl)⟩, trivial⟩, hS.F ht⟩) hS.2.2 dJ0_isLatin1_aae02_18
abbrev rm_J0_coder_7d493 : Room := { frames := 0, cells := 0, slots := 0, locals := 0 }
def f_J0_coder_7d493   : Int32 := 0
set_option maxHeartbeats 4000000 in
set_option maxRecDepth 100000 in
theorem c_J0_coder_7d493 (l : Launch) (dC : Nat → ClassId) (dI : Nat → Nat → Nat) (cI cC cS : ClassId) (ks kv : Nat)   (sz : Nat)   : Met l yJ0_coder_7d493 wsJ0_coder_7d493 rm_J0_coder_7d493 (PcJ (dC, dI) (tyL cI cC cS) ks kv sz [.ref (ks)] (va_A [] sz)) (va_Qi (fun (r : Int32) (_ : Unit) => r = f_J0_coder_7d493) (fun _ _ => True) (va_A [] sz)) 0 0 (va_A [] sz) := by
  refine Met.ofW (cc := cJ0_coder_7d493) (maxL := 1) (ret := (some .byte)) (by decide) rfl ?_
  intro p e s m args below meth c s₁ B hml hv
  obtain ⟨rfl, hsz, hK, hN, hJ⟩ := hv
  have hx := B.exec
  have hb := B.bytes
  have hr := B.returns
  have hts := atoms_spec (ws := wsJ0_coder_7d493) B.pre
  have hown : s.vm.findClass RJ0 = some m.cls := findClass_of_methodNamed B.named
  have hlocks := B.notSynchronized
  subst hsz
  obtain ⟨hOb, hCo, hVa, hTb, hZs⟩ := id hJ
  have hP : va_P (dC, dI) vwCl [] s.heap := va_P_nil
  have hD0 : va_D (fun _ => True) [] := va_D_nil
  have hA : ∀ q : Nat, s.heap.size ≤ q → (va_A [] s.heap.size) q := fun q h => Or.inr h
  have hS : va_S (va_A [] s.heap.size) s.heap s.heap [] := va_S.rf
  have hl := lv_entry [.ref (ks)] (n := 1) (Nat.le_of_ble_eq_true rfl)
  rw [lg_entry_eq]
  generalize (lg_sl [.ref (ks)] ++ List.replicate (1 - (lg_sl [.ref (ks)]).length) Slot.unset).toArray = ls at hl ⊢
  have hl : lv_has ls 1 [(0, .ref (ks))] := hl
  obtain ⟨R0, eR⟩ : ∃ z, z = f_J0_coder_7d493 := ⟨_, rfl⟩
  have hR := eR
  rw [f_J0_coder_7d493] at hR
  refine va_gets (v := .int 1) hx hb hZs hS hown (hts (.fieldLink RJ0 38 "java/lang/String" "COMPACT_STRINGS" "Z") (List.mem_of_getElem? (i := 1) rfl)) (fun _ h9 => h9) dJ0_coder_7d493_0 ?_
  refine lv_if_eq (tgt := 13) hx hb dJ0_coder_7d493_3 (by decide) (fun c1 => ?_) (fun c1 => ?_)
  · exact absurd c1 (by decide)
  · refine lv_aload_n hx hb dJ0_coder_7d493_6 rfl (lv_at hl 0 rfl) ?_
    refine vk_getf (v := .int 0) hx hb hCo hS hown (hts (.fieldLink RJ0 15 "java/lang/String" "coder" "B") (List.mem_of_getElem? (i := 2) rfl)) (fun _ h9 => h9) dJ0_coder_7d493_7 ?_
    refine lv_goto (tgt := 14) hx hb dJ0_coder_7d493_10 (by decide) ?_
    exact W.zret (v := 0) hx hb hr rfl (fun t ht hWw => ⟨⟨0, (), rfl, hR.symm.trans eR, trivial⟩, hS.F ht⟩) hS.2.2 dJ0_coder_7d493_14
abbrev rm_J0_length_8abf5 : Room := { frames := 1, cells := 0, slots := 0, locals := 20 }
def f_J0_length_8abf5   : Int32 := 5
set_option maxHeartbeats 4000000 in
set_option maxRecDepth 100000 in
theorem c_J0_length_8abf5 (l : Launch) (dC : Nat → ClassId) (dI : Nat → Nat → Nat) (cI cC cS : ClassId) (ks kv : Nat)   (sz : Nat)   : Met l yJ0_length_8abf5 wsJ0_length_8abf5 rm_J0_length_8abf5 (PcJ (dC, dI) (tyL cI cC cS) ks kv sz [.ref (ks)] (va_A [] sz)) (va_Qi (fun (r : Int32) (_ : Unit) => r = f_J0_length_8abf5) (fun _ _ => True) (va_A [] sz)) 0 0 (va_A [] sz) := by
  refine Met.ofW (cc := cJ0_length_8abf5) (maxL := 1) (ret := (some .int)) (by decide) rfl ?_
  intro p e s m args below meth c s₁ B hml hv
  obtain ⟨rfl, hsz, hK, hN, hJ⟩ := hv
  have hx := B.exec
  have hb := B.bytes
  have hr := B.returns
  have hts := atoms_spec (ws := wsJ0_length_8abf5) B.pre
  have hown : s.vm.findClass RJ0 = some m.cls := findClass_of_methodNamed B.named
  have hlocks := B.notSynchronized
  subst hsz
  obtain ⟨hOb, hCo, hVa, hTb, hZs⟩ := id hJ
  have hP : va_P (dC, dI) vwCl [] s.heap := va_P_nil
  have hD0 : va_D (fun _ => True) [] := va_D_nil
  have hA : ∀ q : Nat, s.heap.size ≤ q → (va_A [] s.heap.size) q := fun q h => Or.inr h
  have hS : va_S (va_A [] s.heap.size) s.heap s.heap [] := va_S.rf
  have hl := lv_entry [.ref (ks)] (n := 1) (Nat.le_of_ble_eq_true rfl)
  rw [lg_entry_eq]
  generalize (lg_sl [.ref (ks)] ++ List.replicate (1 - (lg_sl [.ref (ks)]).length) Slot.unset).toArray = ls at hl ⊢
  have hl : lv_has ls 1 [(0, .ref (ks))] := hl
  obtain ⟨R0, eR⟩ : ∃ z, z = f_J0_length_8abf5 := ⟨_, rfl⟩
  have hR := eR
  rw [f_J0_length_8abf5] at hR
  refine lv_aload_n hx hb dJ0_length_8abf5_0 rfl (lv_at hl 0 rfl) ?_
  refine vk_getf (v := .ref (kv)) hx hb hVa hS hown (hts (.fieldLink RJ0 9 "java/lang/String" "value" "[B") (List.mem_of_getElem? (i := 1) rfl)) (fun _ h9 => h9) dJ0_length_8abf5_1 ?_
  refine va_tlen (v := 5) hx hb hTb hS (by decide +kernel) dJ0_length_8abf5_4 ?_
  refine lv_aload_n hx hb dJ0_length_8abf5_5 rfl (lv_at hl 0 rfl) ?_
  have hFc : ∀ q : Nat, va_A [] s.heap.size q → (va_A [] s.heap.size) q := roF hS hA
  refine va_calli (va_runV (As := []) (rest := [.int 5]) ⟨hx, hb, hml, hown, hts⟩ (c_J0_coder_7d493 l dC dI cI cC cS ks kv s.heap.size) (cwV 0 hts gJ0_length_8abf5_J0_coder_7d493 rfl rfl rfl (by decide +kernel) ⟨Nat.le_of_ble_eq_true rfl, Nat.le_of_ble_eq_true rfl⟩) (pJV hK hN hJ hS hFc) rfl rfl hl.1 rfl (lv_room (Nat.le_of_ble_eq_true rfl)) dJ0_length_8abf5_6 ⟨Nat.le_of_ble_eq_true rfl, Nat.le_of_ble_eq_true rfl⟩) hS (fun q _ h => hFc q h) hFc (fun r_1 u_1 t_1 H2 locs ht hvm hw hB hz1 hk1 hS => ?_)
  subst hw
  have hP := ro_keep hP hk1
  rw [show f_J0_coder_7d493 = (0 : Int32) from by decide]
  refine lv_ishr hx hb dJ0_length_8abf5_9 ?_
  rw [show ((5 : Int32) >>> ((0 : Int32) &&& 31)) = (5 : Int32) from by decide]
  exact W.iret (v := 5) hx hb hr (fun t ht hWw => ⟨⟨5, (), rfl, hR.symm.trans eR, trivial⟩, hS.F ht⟩) hS.2.2 dJ0_length_8abf5_10
abbrev rm_J0_indexOf_7cf53 : Room := { frames := 2, cells := 0, slots := 0, locals := 48 }
def f_J0_indexOf_7cf53  (p1 : Int32) : Int32 := f_J1_indexOf_4cfef p1
set_option maxHeartbeats 4000000 in
set_option maxRecDepth 100000 in
theorem c_J0_indexOf_7cf53 (l : Launch) (dC : Nat → ClassId) (dI : Nat → Nat → Nat) (cI cC cS : ClassId) (ks kv : Nat)   (sz : Nat) (p1 : Int32)  : Met l yJ0_indexOf_7cf53 wsJ0_indexOf_7cf53 rm_J0_indexOf_7cf53 (PcJ (dC, dI) (tyL cI cC cS) ks kv sz [.ref (ks), .int p1, .int 0] (va_A [] sz)) (va_Qi (fun (r : Int32) (_ : Unit) => r = f_J0_indexOf_7cf53 p1 ∧ (r = -1 ∨ vp_in r 5)) (fun _ _ => True) (va_A [] sz)) 0 0 (va_A [] sz) := by
  refine Met.ofW (cc := cJ0_indexOf_7cf53) (maxL := 3) (ret := (some .int)) (by decide) rfl ?_
  intro p e s m args below meth c s₁ B hml hv
  obtain ⟨rfl, hsz, hK, hN, hJ⟩ := hv
  have hx := B.exec
  have hb := B.bytes
  have hr := B.returns
  have hts := atoms_spec (ws := wsJ0_indexOf_7cf53) B.pre
  have hown : s.vm.findClass RJ0 = some m.cls := findClass_of_methodNamed B.named
  have hlocks := B.notSynchronized
  subst hsz
  obtain ⟨hOb, hCo, hVa, hTb, hZs⟩ := id hJ
  have hP : va_P (dC, dI) vwCl [] s.heap := va_P_nil
  have hD0 : va_D (fun _ => True) [] := va_D_nil
  have hA : ∀ q : Nat, s.heap.size ≤ q → (va_A [] s.heap.size) q := fun q h => Or.inr h
  have hS : va_S (va_A [] s.heap.size) s.heap s.heap [] := va_S.rf
  have hl := lv_entry [.ref (ks), .int p1, .int 0] (n := 3) (Nat.le_of_ble_eq_true rfl)
  rw [lg_entry_eq]
  generalize (lg_sl [.ref (ks), .int p1, .int 0] ++ List.replicate (3 - (lg_sl [.ref (ks), .int p1, .int 0]).length) Slot.unset).toArray = ls at hl ⊢
  have hl : lv_has ls 3 [(0, .ref (ks)), (1, .int p1), (2, .int 0)] := hl
  obtain ⟨R0, eR⟩ : ∃ z, z = f_J0_indexOf_7cf53 p1 := ⟨_, rfl⟩
  have hR := eR
  rw [f_J0_indexOf_7cf53] at hR
  refine lv_aload_n hx hb dJ0_indexOf_7cf53_0 rfl (lv_at hl 0 rfl) ?_
  have hFc : ∀ q : Nat, va_A [] s.heap.size q → (va_A [] s.heap.size) q := roF hS hA
  refine va_calli (va_runV (As := []) (rest := []) ⟨hx, hb, hml, hown, hts⟩ (c_J0_isLatin1_aae02 l dC dI cI cC cS ks kv s.heap.size) (cwV 0 hts gJ0_indexOf_7cf53_J0_isLatin1_aae02 rfl rfl rfl (by decide +kernel) ⟨Nat.le_of_ble_eq_true rfl, Nat.le_of_ble_eq_true rfl⟩) (pJV hK hN hJ hS hFc) rfl rfl hl.1 rfl (lv_room (Nat.le_of_ble_eq_true rfl)) dJ0_indexOf_7cf53_1 ⟨Nat.le_of_ble_eq_true rfl, Nat.le_of_ble_eq_true rfl⟩) hS (fun q _ h => hFc q h) hFc (fun r_1 u_1 t_1 H2 locs ht hvm hw hB hz1 hk1 hS => ?_)
  obtain ⟨hw, hre3⟩ := hw
  subst hw
  have hP := ro_keep hP hk1
  rw [show f_J0_isLatin1_aae02 = (1 : Int32) from by decide]
  refine lv_if_eq (tgt := 23) hx hb dJ0_indexOf_7cf53_4 (by decide) (fun c4 => ?_) (fun c4 => ?_)
  · exact absurd c4 (by decide)
  · refine lv_aload_n hx hb dJ0_indexOf_7cf53_7 rfl (lv_at hl 0 rfl) ?_
    refine vk_getf (v := .ref (kv)) hx hb hVa hS hown (hts (.fieldLink RJ0 9 "java/lang/String" "value" "[B") (List.mem_of_getElem? (i := 1) rfl)) (fun _ h9 => h9) dJ0_indexOf_7cf53_8 ?_
    refine lv_iload_n hx hb dJ0_indexOf_7cf53_11 rfl (lv_at hl 1 rfl) ?_
    refine lv_iload_n hx hb dJ0_indexOf_7cf53_12 rfl (lv_at hl 2 rfl) ?_
    refine lv_aload_n hx hb dJ0_indexOf_7cf53_13 rfl (lv_at hl 0 rfl) ?_
    have hFc : ∀ q : Nat, va_A [] H2.size q → (va_A [] s.heap.size) q := roF hS hA
    refine va_calli (va_runV (As := []) (rest := [.int 0, .int p1, .ref (kv)]) ⟨hx, hb, hml, hown, hts⟩ (c_J0_length_8abf5 l dC dI cI cC cS ks kv H2.size) (cwV 0 hts gJ0_indexOf_7cf53_J0_length_8abf5 rfl rfl rfl (by decide +kernel) ⟨Nat.le_of_ble_eq_true rfl, Nat.le_of_ble_eq_true rfl⟩) (pJV hK hN hJ hS hFc) rfl rfl hl.1 rfl (lv_room (Nat.le_of_ble_eq_true rfl)) dJ0_indexOf_7cf53_14 ⟨Nat.le_of_ble_eq_true rfl, Nat.le_of_ble_eq_true rfl⟩) hS (fun q _ h => hFc q h) hFc (fun r_5 u_5 t_5 H6 locs ht hvm hw hB hz1 hk1 hS => ?_)
    subst hw
    have hP := ro_keep hP hk1
    rw [show f_J0_length_8abf5 = (5 : Int32) from by decide]
    have hFc : ∀ q : Nat, va_A [] H6.size q → (va_A [] s.heap.size) q := roF hS hA
    refine va_calli (va_runS (As := [.ref (kv), .int p1, .int 0, .int 5]) (rest := []) ⟨hx, hb, hml, hown, hts⟩ (c_J1_indexOf_4cfef l dC dI cI cC cS ks kv H6.size p1) (va_cwS 4 hts gJ0_indexOf_7cf53_J1_indexOf_4cfef rfl rfl rfl (by decide +kernel) ⟨Nat.le_of_ble_eq_true rfl, Nat.le_of_ble_eq_true rfl⟩) (pJS hK hN hJ hS hFc) rfl rfl hl.1 rfl (lv_room (Nat.le_of_ble_eq_true rfl)) dJ0_indexOf_7cf53_17 ⟨Nat.le_of_ble_eq_true rfl, Nat.le_of_ble_eq_true rfl⟩) hS (fun q _ h => hFc q h) hFc (fun r_7 u_7 t_7 H8 locs ht hvm hw hB hz1 hk1 hS => ?_)
    obtain ⟨hw, hre9⟩ := hw
    subst hw
    have hP := ro_keep hP hk1
    refine lv_goto (tgt := 36) hx hb dJ0_indexOf_7cf53_20 (by decide) ?_
    exact W.iret (v := f_J1_indexOf_4cfef p1) hx hb hr (fun t ht hWw => ⟨⟨f_J1_indexOf_4cfef p1, (), rfl, ⟨hR.symm.trans eR, hre9⟩, trivial⟩, hS.F ht⟩) hS.2.2 dJ0_indexOf_7cf53_36
abbrev rm_J0_indexOf_0f7a4 : Room := { frames := 3, cells := 0, slots := 0, locals := 70 }
def f_J0_indexOf_0f7a4  (p1 : Int32) : Int32 := f_J0_indexOf_7cf53 p1
set_option maxHeartbeats 4000000 in
set_option maxRecDepth 100000 in
theorem c_J0_indexOf_0f7a4 (l : Launch) (dC : Nat → ClassId) (dI : Nat → Nat → Nat) (cI cC cS : ClassId) (ks kv : Nat)   (sz : Nat) (p1 : Int32)  : Met l yJ0_indexOf_0f7a4 wsJ0_indexOf_0f7a4 rm_J0_indexOf_0f7a4 (PcJ (dC, dI) (tyL cI cC cS) ks kv sz [.ref (ks), .int p1] (va_A [] sz)) (va_Qi (fun (r : Int32) (_ : Unit) => r = f_J0_indexOf_0f7a4 p1 ∧ (r = -1 ∨ vp_in r 5)) (fun _ _ => True) (va_A [] sz)) 0 0 (va_A [] sz) := by
  refine Met.ofW (cc := cJ0_indexOf_0f7a4) (maxL := 2) (ret := (some .int)) (by decide) rfl ?_
  intro p e s m args below meth c s₁ B hml hv
  obtain ⟨rfl, hsz, hK, hN, hJ⟩ := hv
  have hx := B.exec
  have hb := B.bytes
  have hr := B.returns
  have hts := atoms_spec (ws := wsJ0_indexOf_0f7a4) B.pre
  have hown : s.vm.findClass RJ0 = some m.cls := findClass_of_methodNamed B.named
  have hlocks := B.notSynchronized
  subst hsz
  obtain ⟨hOb, hCo, hVa, hTb, hZs⟩ := id hJ
  have hP : va_P (dC, dI) vwCl [] s.heap := va_P_nil
  have hD0 : va_D (fun _ => True) [] := va_D_nil
  have hA : ∀ q : Nat, s.heap.size ≤ q → (va_A [] s.heap.size) q := fun q h => Or.inr h
  have hS : va_S (va_A [] s.heap.size) s.heap s.heap [] := va_S.rf
  have hl := lv_entry [.ref (ks), .int p1] (n := 2) (Nat.le_of_ble_eq_true rfl)
  rw [lg_entry_eq]
  generalize (lg_sl [.ref (ks), .int p1] ++ List.replicate (2 - (lg_sl [.ref (ks), .int p1]).length) Slot.unset).toArray = ls at hl ⊢
  have hl : lv_has ls 2 [(0, .ref (ks)), (1, .int p1)] := hl
  obtain ⟨R0, eR⟩ : ∃ z, z = f_J0_indexOf_0f7a4 p1 := ⟨_, rfl⟩
  have hR := eR
  rw [f_J0_indexOf_0f7a4] at hR
  refine lv_aload_n hx hb dJ0_indexOf_0f7a4_0 rfl (lv_at hl 0 rfl) ?_
  refine lv_iload_n hx hb dJ0_indexOf_0f7a4_1 rfl (lv_at hl 1 rfl) ?_
  refine lv_iconst (v := 0) hx hb dJ0_indexOf_0f7a4_2 (by decide) ?_
  have hFc : ∀ q : Nat, va_A [] s.heap.size q → (va_A [] s.heap.size) q := roF hS hA
  refine va_calli (va_runV (As := [.int p1, .int 0]) (rest := []) ⟨hx, hb, hml, hown, hts⟩ (c_J0_indexOf_7cf53 l dC dI cI cC cS ks kv s.heap.size p1) (cwV 2 hts gJ0_indexOf_0f7a4_J0_indexOf_7cf53 rfl rfl rfl (by decide +kernel) ⟨Nat.le_of_ble_eq_true rfl, Nat.le_of_ble_eq_true rfl⟩) (pJV hK hN hJ hS hFc) rfl rfl hl.1 rfl (lv_room (Nat.le_of_ble_eq_true rfl)) dJ0_indexOf_0f7a4_3 ⟨Nat.le_of_ble_eq_true rfl, Nat.le_of_ble_eq_true rfl⟩) hS (fun q _ h => hFc q h) hFc (fun r_1 u_1 t_1 H2 locs ht hvm hw hB hz1 hk1 hS => ?_)
  obtain ⟨hw, hre3⟩ := hw
  subst hw
  have hP := ro_keep hP hk1
  exact W.iret (v := f_J0_indexOf_7cf53 p1) hx hb hr (fun t ht hWw => ⟨⟨f_J0_indexOf_7cf53 p1, (), rfl, ⟨hR.symm.trans eR, hre3⟩, trivial⟩, hS.F ht⟩) hS.2.2 dJ0_indexOf_0f7a4_6
abbrev rm_X2_add : Room := { frames := 0, cells := 0, slots := 0, locals := 0 }
def f_X2_add (P : SR) (p1 : Int32) : SR := (if (P 1 0) < 140 then sLet (sU P 0 (P 1 0).toNatClampNeg (vp_nar .char p1)) (fun Pn3 : SR => sLet (sU Pn3 1 0 ((Pn3 1 0) + 1)) (fun Pn5 : SR => Pn5)) else P)
set_option maxHeartbeats 4000000 in
set_option maxRecDepth 100000 in
theorem c_X2_add (l : Launch) (dC : Nat → ClassId) (dI : Nat → Nat → Nat) (cI cC cS : ClassId) (a : Nat → Nat) (P : SR) (sz : Nat) (p1 : Int32) (hLn : LN P) : Met l yX2_add wsX2_add rm_X2_add (PcG (dC, dI) (tyL cI cC cS) (cPt a cC P) sz [.ref (a 0), .int p1]) (va_Qv (fun (u : SR) => u = f_X2_add P p1 ∧ (LN u)) (fun u U => va_P (dC, dI) vwCl (cPt a cC u) U.heap ∧ va_D (va_A (cPt a cC P) sz) (cPt a cC u)) (va_A (cPt a cC P) sz)) 0 0 (va_A (cPt a cC P) sz) := by
  refine Met.ofW (cc := cX2_add) (maxL := 2) (ret := none) (by decide) rfl ?_
  intro p e s m args below meth c s₁ B hml hv
  obtain ⟨rfl, hsz, hP, hK, hD0, hN⟩ := hv
  have hx := B.exec
  have hb := B.bytes
  have hr := B.returns
  have hts := atoms_spec (ws := wsX2_add) B.pre
  have hown : s.vm.findClass RX2 = some m.cls := findClass_of_methodNamed B.named
  have hlocks := B.notSynchronized
  subst hsz
  have hD := hD0.self (sz := s.heap.size)
  have hA : ∀ q : Nat, s.heap.size ≤ q → (va_A (cPt a cC P) s.heap.size) q := fun q h => Or.inr h
  have hS : va_S (va_A (cPt a cC P) s.heap.size) s.heap s.heap [] := va_S.rf
  have hin2 : ∀ w ∈ wsX20, w ∈ wsX2_add := fun _ h => List.mem_cons_of_mem _ (List.mem_append_right _ h)
  have hl := lv_entry [.ref (a 0), .int p1] (n := 2) (Nat.le_of_ble_eq_true rfl)
  rw [lg_entry_eq]
  generalize (lg_sl [.ref (a 0), .int p1] ++ List.replicate (2 - (lg_sl [.ref (a 0), .int p1]).length) Slot.unset).toArray = ls at hl ⊢
  have hl : lv_has ls 2 [(0, .ref (a 0)), (1, .int p1)] := hl
  obtain ⟨R0, eR⟩ : ∃ z, z = f_X2_add P p1 := ⟨_, rfl⟩
  have hR := eR
  rw [f_X2_add] at hR
  refine lv_aload_n hx hb dX2_add_0 rfl (lv_at hl 0 rfl) ?_
  refine va_get (D := (dC, dI)) (ci := 2) (v := .int (P 1 0)) (C := RX2) (T := TX2) (N := 3) hx hb hts hin2 hown hK hP 0 rfl rfl 1 (by decide) (hts (.fieldLink RX2 15 "FeedDesk$Patch" "length" "I") (List.mem_of_getElem? (i := 1) rfl)) (fun _ h9 => h9) rfl dX2_add_1 ?_
  refine lv_sipush (v := 140) hx hb dX2_add_4 (by decide) ?_
  refine lv_icmp_lt (tgt := 11) hx hb dX2_add_7 (by decide) (fun c1 => ?_) (fun c1 => ?_)
  · rw [if_pos c1] at hR
    refine lv_aload_n hx hb dX2_add_11 rfl (lv_at hl 0 rfl) ?_
    refine va_get (D := (dC, dI)) (ci := 2) (v := .ref (a 1)) (C := RX2) (T := TX2) (N := 3) hx hb hts hin2 hown hK hP 0 rfl rfl 0 (by decide) (hts (.fieldLink RX2 9 "FeedDesk$Patch" "text" "[C") (List.mem_of_getElem? (i := 2) rfl)) (fun _ h9 => h9) rfl dX2_add_12 ?_
    refine lv_aload_n hx hb dX2_add_15 rfl (lv_at hl 0 rfl) ?_
    refine va_get (D := (dC, dI)) (ci := 2) (v := .int (P 1 0)) (C := RX2) (T := TX2) (N := 3) hx hb hts hin2 hown hK hP 0 rfl rfl 1 (by decide) (hts (.fieldLink RX2 15 "FeedDesk$Patch" "length" "I") (List.mem_of_getElem? (i := 1) rfl)) (fun _ h9 => h9) rfl dX2_add_16 ?_
    refine lv_iload_n hx hb dX2_add_19 rfl (lv_at hl 1 rfl) ?_
    refine va_cast (f := P 0) hx hb hK hP hD hS 1 1 rfl rfl (add_in hLn c1) dX2_add_20 (fun H2 locs hP hD hS => ?_)
    have hP : va_P (dC, dI) vwCl (cPt a cC (sU P 0 (P 1 0).toNatClampNeg (vp_nar .char p1))) H2 := hP
    have hD : va_D (va_A (cPt a cC P) s.heap.size) (cPt a cC (sU P 0 (P 1 0).toNatClampNeg (vp_nar .char p1))) := hD
    obtain ⟨Pn3, ePn3⟩ : ∃ z : SR, z = sU P 0 (P 1 0).toNatClampNeg (vp_nar .char p1) := ⟨_, rfl⟩
    rw [sLet_eq, ← ePn3] at hR
    rw [← ePn3] at hP hD
    refine lv_aload_n hx hb dX2_add_21 rfl (lv_at hl 0 rfl) ?_
    refine lv_dup hx hb dX2_add_22 rfl ?_
    refine va_get (D := (dC, dI)) (ci := 2) (v := .int (Pn3 1 0)) (C := RX2) (T := TX2) (N := 3) hx hb hts hin2 hown hK hP 0 rfl rfl 1 (by decide) (hts (.fieldLink RX2 15 "FeedDesk$Patch" "length" "I") (List.mem_of_getElem? (i := 1) rfl)) (fun _ h9 => h9) rfl dX2_add_23 ?_
    refine lv_iconst (v := 1) hx hb dX2_add_26 (by decide) ?_
    refine lv_iadd hx hb dX2_add_27 ?_
    refine va_put (D := (dC, dI)) (ci := 2) (v := .int ((Pn3 1 0) + 1)) (ty := .int) (C := RX2) (T := TX2) (N := 3) hx hb hts hin2 tyX2 tyX2_ok nmX2 hown hK hP hD hS 0 rfl rfl 1 (by decide) (hts (.fieldLink RX2 15 "FeedDesk$Patch" "length" "I") (List.mem_of_getElem? (i := 1) rfl)) (fun _ h9 => h9) rfl (by decide +kernel) rfl rfl (Nat.le_of_ble_eq_true rfl) dX2_add_28 (fun H4 locs hP hD hS => ?_)
    have hP : va_P (dC, dI) vwCl (cPt a cC (sU Pn3 1 0 ((Pn3 1 0) + 1))) H4 := hP
    have hD : va_D (va_A (cPt a cC P) s.heap.size) (cPt a cC (sU Pn3 1 0 ((Pn3 1 0) + 1))) := hD
    obtain ⟨Pn5, ePn5⟩ : ∃ z : SR, z = sU Pn3 1 0 ((Pn3 1 0) + 1) := ⟨_, rfl⟩
    rw [sLet_eq, ← ePn5] at hR
    rw [← ePn5] at hP hD
    exact W.vret hx hb hr (fun t ht hWw => ⟨⟨Pn5, rfl, ⟨hR.symm.trans eR, (by rw [ePn5, ePn3]; exact add_ln hLn c1)⟩, by rw [ht]; exact hP, hD⟩, hS.F ht⟩) hS.2.2 dX2_add_31
  · rw [if_neg c1] at hR
    exact W.vret hx hb hr (fun t ht hWw => ⟨⟨P, rfl, ⟨hR.symm.trans eR, hLn⟩, by rw [ht]; exact hP, hD⟩, hS.F ht⟩) hS.2.2 dX2_add_10
abbrev rm_X2_readLetter : Room := { frames := 4, cells := 0, slots := 0, locals := 91 }
def f_X2_readLetter (P : SR) (p1 : Int32) : Int32 × SR := sLet ((f_X2_skipSpaces P)) (fun Pn4 : SR => (if (Pn4 1 0) ≤ (Pn4 1 1) then ((-1), Pn4) else (if (f_J0_indexOf_0f7a4 (Pn4 0 (Pn4 1 1).toNatClampNeg)) < 0 then ((-1), Pn4) else (if (f_X5_hasBit p1 (f_J0_indexOf_0f7a4 (Pn4 0 (Pn4 1 1).toNatClampNeg))) = 0 then sLet (sU Pn4 1 1 ((Pn4 1 1) + 1)) (fun Pn17 : SR => (f_J0_indexOf_0f7a4 (Pn4 0 (Pn4 1 1).toNatClampNeg), Pn17)) else ((-1), Pn4)))))
set_option maxHeartbeats 4000000 in
set_option maxRecDepth 100000 in
theorem c_X2_readLetter (l : Launch) (dC : Nat → ClassId) (dI : Nat → Nat → Nat) (cI cC cS : ClassId) (a : Nat → Nat) (P : SR) (sz : Nat) (p1 : Int32) (hp : WFP P) : Met l yX2_readLetter wsX2_readLetter rm_X2_readLetter (PcS (dC, dI) (tyL cI cC cS) (cPt a cC P) sz [.ref (a 0), .int p1] (va_A (cPt a cC P) sz)) (va_Qi (fun (r : Int32) (u : SR) => (r, u) = f_X2_readLetter P p1 ∧ (WFP u) ∧ (r = -1 ∨ vp_in r 5)) (fun u U => va_P (dC, dI) vwCl (cPt a cC u) U.heap ∧ va_D (va_A (cPt a cC P) sz) (cPt a cC u)) (va_A (cPt a cC P) sz)) 0 0 (va_A (cPt a cC P) sz) := by
  refine Met.ofW (cc := cX2_readLetter) (maxL := 3) (ret := (some .int)) (by decide) rfl ?_
  intro p e s m args below meth c s₁ B hml hv
  obtain ⟨rfl, hsz, hP, hK, hD0, hN, hT⟩ := hv
  have hx := B.exec
  have hb := B.bytes
  have hr := B.returns
  have hts := atoms_spec (ws := wsX2_readLetter) B.pre
  have hown : s.vm.findClass RX2 = some m.cls := findClass_of_methodNamed B.named
  have hlocks := B.notSynchronized
  subst hsz
  obtain ⟨⟨tc, hZc, hTc⟩, ⟨tg, hZg, hTg⟩, ⟨ks, kv, hSk, hSr⟩⟩ := id hT
  have hD := hD0.self (sz := s.heap.size)
  have hA : ∀ q : Nat, s.heap.size ≤ q → (va_A (cPt a cC P) s.heap.size) q := fun q h => Or.inr h
  have hS : va_S (va_A (cPt a cC P) s.heap.size) s.heap s.heap [] := va_S.rf
  have hin2 : ∀ w ∈ wsX20, w ∈ wsX2_readLetter := fun _ h => List.mem_cons_of_mem _ (List.mem_append_right _ h)
  have hl := lv_entry [.ref (a 0), .int p1] (n := 3) (Nat.le_of_ble_eq_true rfl)
  rw [lg_entry_eq]
  generalize (lg_sl [.ref (a 0), .int p1] ++ List.replicate (3 - (lg_sl [.ref (a 0), .int p1]).length) Slot.unset).toArray = ls at hl ⊢
  have hl : lv_has ls 3 [(0, .ref (a 0)), (1, .int p1)] := hl
  obtain ⟨R0, eR⟩ : ∃ z, z = f_X2_readLetter P p1 := ⟨_, rfl⟩
  have hR := eR
  rw [f_X2_readLetter] at hR
  refine lv_aload_n hx hb dX2_readLetter_0 rfl (lv_at hl 0 rfl) ?_
  have hPc : va_P (dC, dI) vwCl (cPt a cC P) s.heap := hP.sub [0, 1] rfl
  have hDc : va_D (va_A (cPt a cC P) s.heap.size) (cPt a cC P) := hD.sub [0, 1] (by decide) rfl
  have hFc : ∀ q : Nat, va_A (cPt a cC P) s.heap.size q → (va_A (cPt a cC P) s.heap.size) q := va_free hD hS hA [0, 1] rfl
  refine va_callv (va_runV (As := []) (rest := []) ⟨hx, hb, hml, hown, hts⟩ (c_X2_skipSpaces l dC dI cI cC cS a P s.heap.size hp) (cwV 0 hts gX2_readLetter_X2_skipSpaces rfl rfl rfl (by decide +kernel) ⟨Nat.le_of_ble_eq_true rfl, Nat.le_of_ble_eq_true rfl⟩) (pV (q0 := 0) hK hPc hDc hN rfl rfl) rfl rfl hl.1 rfl (lv_room (Nat.le_of_ble_eq_true rfl)) dX2_readLetter_1 ⟨Nat.le_of_ble_eq_true rfl, Nat.le_of_ble_eq_true rfl⟩) hS (fun q _ h => hFc q h) hFc (fun u_1 t_1 H2 locs ht hvm hw hB hz1 hk1 hS => ?_)
  obtain ⟨hw, hens3⟩ := hw
  obtain ⟨hP1, hD1⟩ := hB
  rw [ht] at hP1
  subst hw
  obtain ⟨hP, hD⟩ := va_join (wc := cPt a cC P) (wr := []) (w1 := cPt a cC (f_X2_skipSpaces P)) hP hD [0, 1] [] rfl rfl (by decide) (by decide) hk1 hFc hP1 hD1
  have hP : va_P (dC, dI) vwCl (cPt a cC (f_X2_skipSpaces P)) H2 := hP.sub [0, 1] rfl
  have hD : va_D (va_A (cPt a cC P) s.heap.size) (cPt a cC (f_X2_skipSpaces P)) := hD.sub [0, 1] (by decide) rfl
  obtain ⟨Pn4, ePn4⟩ : ∃ z : SR, z = (f_X2_skipSpaces P) := ⟨_, rfl⟩
  rw [sLet_eq, ← ePn4] at hR
  rw [← ePn4] at hP hD
  have hp5 : WFP Pn4 := by rw [ePn4]; exact hens3
  refine lv_aload_n hx hb dX2_readLetter_4 rfl (lv_at hl 0 rfl) ?_
  refine va_get (D := (dC, dI)) (ci := 2) (v := .int (Pn4 1 1)) (C := RX2) (T := TX2) (N := 3) hx hb hts hin2 hown hK hP 0 rfl rfl 2 (by decide) (hts (.fieldLink RX2 19 "FeedDesk$Patch" "at" "I") (List.mem_of_getElem? (i := 1) rfl)) (fun _ h9 => h9) rfl dX2_readLetter_5 ?_
  refine lv_aload_n hx hb dX2_readLetter_8 rfl (lv_at hl 0 rfl) ?_
  refine va_get (D := (dC, dI)) (ci := 2) (v := .int (Pn4 1 0)) (C := RX2) (T := TX2) (N := 3) hx hb hts hin2 hown hK hP 0 rfl rfl 1 (by decide) (hts (.fieldLink RX2 15 "FeedDesk$Patch" "length" "I") (List.mem_of_getElem? (i := 2) rfl)) (fun _ h9 => h9) rfl dX2_readLetter_9 ?_
  refine lv_icmp_ge (tgt := 32) hx hb dX2_readLetter_12 (by decide) (fun c6 => ?_) (fun c6 => ?_)
  · rw [if_pos c6] at hR
    refine lv_iconst (v := (-1)) hx hb dX2_readLetter_32 (by decide) ?_
    refine lv_istore_n (lv' := [(2, .int (-1)), (0, .ref (a 0)), (1, .int p1)]) hx hb dX2_readLetter_33 rfl hl (by decide) rfl (fun ls hl => ?_)
    refine lv_iload_n hx hb dX2_readLetter_34 rfl (lv_at hl 0 rfl) ?_
    refine lv_if_lt (tgt := 46) hx hb dX2_readLetter_35 (by decide) (fun c7 => ?_) (fun c7 => ?_)
    · refine lv_iconst (v := (-1)) hx hb dX2_readLetter_46 (by decide) ?_
      exact W.iret (v := (-1)) hx hb hr (fun t ht hWw => ⟨⟨(-1), Pn4, rfl, ⟨hR.symm.trans eR, hp5, (Or.inl rfl)⟩, by rw [ht]; exact hP, hD⟩, hS.F ht⟩) hS.2.2 dX2_readLetter_47
    · exact absurd c7 (by decide)
  · rw [if_neg c6] at hR
    refine va_ldcS hx hb hown hSr dX2_readLetter_15 ?_
    refine lv_aload_n hx hb dX2_readLetter_17 rfl (lv_at hl 0 rfl) ?_
    refine va_get (D := (dC, dI)) (ci := 2) (v := .ref (a 1)) (C := RX2) (T := TX2) (N := 3) hx hb hts hin2 hown hK hP 0 rfl rfl 0 (by decide) (hts (.fieldLink RX2 9 "FeedDesk$Patch" "text" "[C") (List.mem_of_getElem? (i := 3) rfl)) (fun _ h9 => h9) rfl dX2_readLetter_18 ?_
    refine lv_aload_n hx hb dX2_readLetter_21 rfl (lv_at hl 0 rfl) ?_
    refine va_get (D := (dC, dI)) (ci := 2) (v := .int (Pn4 1 1)) (C := RX2) (T := TX2) (N := 3) hx hb hts hin2 hown hK hP 0 rfl rfl 2 (by decide) (hts (.fieldLink RX2 19 "FeedDesk$Patch" "at" "I") (List.mem_of_getElem? (i := 1) rfl)) (fun _ h9 => h9) rfl dX2_readLetter_22 ?_
    refine va_cald (f := Pn4 0) hx hb hK hP 1 1 rfl rfl (wfp_in hp5 c6) dX2_readLetter_25 ?_
    have hFc : ∀ q : Nat, va_A [] H2.size q → (va_A (cPt a cC P) s.heap.size) q := roF hS hA
    refine va_calli (va_runV (As := [.int (Pn4 0 (Pn4 1 1).toNatClampNeg)]) (rest := []) ⟨hx, hb, hml, hown, hts⟩ (c_J0_indexOf_0f7a4 l dC dI cI cC cS ks kv H2.size (Pn4 0 (Pn4 1 1).toNatClampNeg)) (cwV 1 hts gX2_readLetter_J0_indexOf_0f7a4 rfl rfl rfl (by decide +kernel) ⟨Nat.le_of_ble_eq_true rfl, Nat.le_of_ble_eq_true rfl⟩) (pJV hK hN hSk hS hFc) rfl rfl hl.1 rfl (lv_room (Nat.le_of_ble_eq_true rfl)) dX2_readLetter_26 ⟨Nat.le_of_ble_eq_true rfl, Nat.le_of_ble_eq_true rfl⟩) hS (fun q _ h => hFc q h) hFc (fun r_8 u_8 t_8 H9 locs ht hvm hw hB hz1 hk1 hS => ?_)
    obtain ⟨hw, hre10⟩ := hw
    subst hw
    have hP := ro_keep hP hk1
    refine lv_goto (tgt := 33) hx hb dX2_readLetter_29 (by decide) ?_
    refine lv_istore_n (lv' := [(2, .int (f_J0_indexOf_0f7a4 (Pn4 0 (Pn4 1 1).toNatClampNeg))), (0, .ref (a 0)), (1, .int p1)]) hx hb dX2_readLetter_33 rfl hl (by decide) rfl (fun ls hl => ?_)
    refine lv_iload_n hx hb dX2_readLetter_34 rfl (lv_at hl 0 rfl) ?_
    refine lv_if_lt (tgt := 46) hx hb dX2_readLetter_35 (by decide) (fun c11 => ?_) (fun c11 => ?_)
    · rw [if_pos c11] at hR
      refine lv_iconst (v := (-1)) hx hb dX2_readLetter_46 (by decide) ?_
      exact W.iret (v := (-1)) hx hb hr (fun t ht hWw => ⟨⟨(-1), Pn4, rfl, ⟨hR.symm.trans eR, hp5, (Or.inl rfl)⟩, by rw [ht]; exact hP, hD⟩, hS.F ht⟩) hS.2.2 dX2_readLetter_47
    · rw [if_neg c11] at hR
      refine lv_iload_n hx hb dX2_readLetter_38 rfl (lv_at hl 2 rfl) ?_
      refine lv_iload_n hx hb dX2_readLetter_39 rfl (lv_at hl 0 rfl) ?_
      have hFc : ∀ q : Nat, va_A [] H9.size q → (va_A (cPt a cC P) s.heap.size) q := roF hS hA
      refine va_calli (va_runSN (As := [.int p1, .int (f_J0_indexOf_0f7a4 (Pn4 0 (Pn4 1 1).toNatClampNeg))]) (rest := []) ⟨hx, hb, hml, hown, hts⟩ (c_X5_hasBit l dC dI cI cC cS H9.size p1 (f_J0_indexOf_0f7a4 (Pn4 0 (Pn4 1 1).toNatClampNeg))) ⟨va_cnB 2 hts gX2_readLetter_X5_hasBit_n66 rfl rfl rfl (hN.at 7 rfl) (hts (.initialized RX5) (List.mem_of_getElem? (i := 99) rfl)) (by decide +kernel) ⟨Nat.le_of_ble_eq_true rfl, Nat.le_of_ble_eq_true rfl⟩, (hts (.static yX5_hasBit) (List.mem_of_getElem? (i := 98) rfl)), trivial⟩ (pS hK (va_P_nil) (va_D_nil) hN) rfl rfl hl.1 rfl (lv_room (Nat.le_of_ble_eq_true rfl)) dX2_readLetter_40 ⟨Nat.le_of_ble_eq_true rfl, Nat.le_of_ble_eq_true rfl⟩) hS (fun q _ h => hFc q h) hFc (fun r_12 u_12 t_12 H13 locs ht hvm hw hB hz1 hk1 hS => ?_)
      obtain ⟨hw, hre14⟩ := hw
      subst hw
      have hP := ro_keep hP hk1
      refine lv_if_eq (tgt := 48) hx hb dX2_readLetter_43 (by decide) (fun c15 => ?_) (fun c15 => ?_)
      · rw [if_pos c15] at hR
        refine lv_aload_n hx hb dX2_readLetter_48 rfl (lv_at hl 1 rfl) ?_
        refine lv_dup hx hb dX2_readLetter_49 rfl ?_
        refine va_get (D := (dC, dI)) (ci := 2) (v := .int (Pn4 1 1)) (C := RX2) (T := TX2) (N := 3) hx hb hts hin2 hown hK hP 0 rfl rfl 2 (by decide) (hts (.fieldLink RX2 19 "FeedDesk$Patch" "at" "I") (List.mem_of_getElem? (i := 1) rfl)) (fun _ h9 => h9) rfl dX2_readLetter_50 ?_
        refine lv_iconst (v := 1) hx hb dX2_readLetter_53 (by decide) ?_
        refine lv_iadd hx hb dX2_readLetter_54 ?_
        refine va_put (D := (dC, dI)) (ci := 2) (v := .int ((Pn4 1 1) + 1)) (ty := .int) (C := RX2) (T := TX2) (N := 3) hx hb hts hin2 tyX2 tyX2_ok nmX2 hown hK hP hD hS 0 rfl rfl 2 (by decide) (hts (.fieldLink RX2 19 "FeedDesk$Patch" "at" "I") (List.mem_of_getElem? (i := 1) rfl)) (fun _ h9 => h9) rfl (by decide +kernel) rfl rfl (Nat.le_of_ble_eq_true rfl) dX2_readLetter_55 (fun H16 locs hP hD hS => ?_)
        have hP : va_P (dC, dI) vwCl (cPt a cC (sU Pn4 1 1 ((Pn4 1 1) + 1))) H16 := hP
        have hD : va_D (va_A (cPt a cC P) s.heap.size) (cPt a cC (sU Pn4 1 1 ((Pn4 1 1) + 1))) := hD
        obtain ⟨Pn17, ePn17⟩ : ∃ z : SR, z = sU Pn4 1 1 ((Pn4 1 1) + 1) := ⟨_, rfl⟩
        rw [sLet_eq, ← ePn17] at hR
        rw [← ePn17] at hP hD
        have hp18 : WFP Pn17 := (by rw [ePn17]; exact wfp_inc hp5 c6)
        refine lv_iload_n hx hb dX2_readLetter_58 rfl (lv_at hl 0 rfl) ?_
        exact W.iret (v := f_J0_indexOf_0f7a4 (Pn4 0 (Pn4 1 1).toNatClampNeg)) hx hb hr (fun t ht hWw => ⟨⟨f_J0_indexOf_0f7a4 (Pn4 0 (Pn4 1 1).toNatClampNeg), Pn17, rfl, ⟨hR.symm.trans eR, hp18, hre10⟩, by rw [ht]; exact hP, hD⟩, hS.F ht⟩) hS.2.2 dX2_readLetter_59
      · rw [if_neg c15] at hR
        refine lv_iconst (v := (-1)) hx hb dX2_readLetter_46 (by decide) ?_
        exact W.iret (v := (-1)) hx hb hr (fun t ht hWw => ⟨⟨(-1), Pn4, rfl, ⟨hR.symm.trans eR, hp5, (Or.inl rfl)⟩, by rw [ht]; exact hP, hD⟩, hS.F ht⟩) hS.2.2 dX2_readLetter_47
abbrev rm_X2_readValue : Room := { frames := 2, cells := 0, slots := 0, locals := 45 }
def f_X2_readValue (P : SR) (p1 : Int32) : Int32 × SR := (if p1 = 0 then sLet ((f_X2_readNumber P (chI 0)).2) (fun Pn6 : SR => ((f_X2_readNumber P (chI 0)).1, Pn6)) else (if p1 = 1 then sLet ((f_X2_readNumber P (chI 1)).2) (fun Pn13 : SR => ((f_X2_readNumber P (chI 1)).1, Pn13)) else (if p1 = 2 then (1, P) else (if p1 = 3 then (1, P) else (if p1 = 4 then sLet ((f_X2_readGroups P).2) (fun Pn21 : SR => ((f_X2_readGroups P).1, Pn21)) else (1, P))))))
set_option maxHeartbeats 4000000 in
set_option maxRecDepth 100000 in
theorem c_X2_readValue (l : Launch) (dC : Nat → ClassId) (dI : Nat → Nat → Nat) (cI cC cS : ClassId) (a : Nat → Nat) (P : SR) (sz : Nat) (p1 : Int32) (hp : WFP P) : Met l yX2_readValue wsX2_readValue rm_X2_readValue (PcS (dC, dI) (tyL cI cC cS) (cPt a cC P) sz [.ref (a 0), .int p1] (va_A (cPt a cC P) sz)) (va_Qi (fun (r : Int32) (u : SR) => (r, u) = f_X2_readValue P p1 ∧ (WFP u)) (fun u U => va_P (dC, dI) vwCl (cPt a cC u) U.heap ∧ va_D (va_A (cPt a cC P) sz) (cPt a cC u)) (va_A (cPt a cC P) sz)) 0 0 (va_A (cPt a cC P) sz) := by
  refine Met.ofW (cc := cX2_readValue) (maxL := 2) (ret := (some .int)) (by decide) rfl ?_
  intro p e s m args below meth c s₁ B hml hv
  obtain ⟨rfl, hsz, hP, hK, hD0, hN, hT⟩ := hv
  have hx := B.exec
  have hb := B.bytes
  have hr := B.returns
  have hts := atoms_spec (ws := wsX2_readValue) B.pre
  have hown : s.vm.findClass RX2 = some m.cls := findClass_of_methodNamed B.named
  have hlocks := B.notSynchronized
  subst hsz
  obtain ⟨⟨tc, hZc, hTc⟩, ⟨tg, hZg, hTg⟩, ⟨ks, kv, hSk, hSr⟩⟩ := id hT
  have hD := hD0.self (sz := s.heap.size)
  have hA : ∀ q : Nat, s.heap.size ≤ q → (va_A (cPt a cC P) s.heap.size) q := fun q h => Or.inr h
  have hS : va_S (va_A (cPt a cC P) s.heap.size) s.heap s.heap [] := va_S.rf
  have hl := lv_entry [.ref (a 0), .int p1] (n := 2) (Nat.le_of_ble_eq_true rfl)
  rw [lg_entry_eq]
  generalize (lg_sl [.ref (a 0), .int p1] ++ List.replicate (2 - (lg_sl [.ref (a 0), .int p1]).length) Slot.unset).toArray = ls at hl ⊢
  have hl : lv_has ls 2 [(0, .ref (a 0)), (1, .int p1)] := hl
  obtain ⟨R0, eR⟩ : ∃ z, z = f_X2_readValue P p1 := ⟨_, rfl⟩
  have hR := eR
  rw [f_X2_readValue] at hR
  refine lv_iload_n hx hb dX2_readValue_0 rfl (lv_at hl 1 rfl) ?_
  rcases Decidable.em (p1 = 0) with c1 | c1
  · rw [if_pos c1] at hR
    refine lv_tableIn (tgt := 36) hx hb dX2_readValue_1 (by rw [c1]; decide) (by rw [c1]; decide) (by rw [c1]; rfl) (by decide) ?_
    refine lv_aload_n hx hb dX2_readValue_36 rfl (lv_at hl 0 rfl) ?_
    refine va_getsN hx hb hZc hS hown (va_Nw.use rfl (hN.at 37 rfl)) (fun _ h9 => h9) dX2_readValue_37 ?_
    refine lv_iconst (v := 0) hx hb dX2_readValue_40 (by decide) ?_
    refine va_ti (v := .int (chI 0)) hx hb hTc hS (vp_of_B (by decide +kernel : vp_okB (0) 5 = true)) rfl dX2_readValue_41 ?_
    refine lv_eqi (y := chI 0) rfl ?_
    have hPc : va_P (dC, dI) vwCl (cPt a cC P) s.heap := hP.sub [0, 1] rfl
    have hDc : va_D (va_A (cPt a cC P) s.heap.size) (cPt a cC P) := hD.sub [0, 1] (by decide) rfl
    have hFc : ∀ q : Nat, va_A (cPt a cC P) s.heap.size q → (va_A (cPt a cC P) s.heap.size) q := va_free hD hS hA [0, 1] rfl
    refine va_calli (va_runV (As := [.int (chI 0)]) (rest := []) ⟨hx, hb, hml, hown, hts⟩ (c_X2_readNumber l dC dI cI cC cS a P s.heap.size (chI 0) hp) (cwV 1 hts gX2_readValue_X2_readNumber rfl rfl rfl (by decide +kernel) ⟨Nat.le_of_ble_eq_true rfl, Nat.le_of_ble_eq_true rfl⟩) (pV (q0 := 0) hK hPc hDc hN rfl rfl) rfl rfl hl.1 rfl (lv_room (Nat.le_of_ble_eq_true rfl)) dX2_readValue_42 ⟨Nat.le_of_ble_eq_true rfl, Nat.le_of_ble_eq_true rfl⟩) hS (fun q _ h => hFc q h) hFc (fun r_2 u_2 t_2 H3 locs ht hvm hw hB hz1 hk1 hS => ?_)
    obtain ⟨hw, hens4, hens5⟩ := hw
    obtain ⟨hP1, hD1⟩ := hB
    rw [ht] at hP1
    have hw1 : r_2 = (f_X2_readNumber P (chI 0)).1 := congrArg Prod.fst hw
    have hw2 : u_2 = (f_X2_readNumber P (chI 0)).2 := congrArg Prod.snd hw
    clear hw
    subst hw1
    subst hw2
    obtain ⟨hP, hD⟩ := va_join (wc := cPt a cC P) (wr := []) (w1 := cPt a cC ((f_X2_readNumber P (chI 0)).2)) hP hD [0, 1] [] rfl rfl (by decide) (by decide) hk1 hFc hP1 hD1
    have hP : va_P (dC, dI) vwCl (cPt a cC ((f_X2_readNumber P (chI 0)).2)) H3 := hP.sub [0, 1] rfl
    have hD : va_D (va_A (cPt a cC P) s.heap.size) (cPt a cC ((f_X2_readNumber P (chI 0)).2)) := hD.sub [0, 1] (by decide) rfl
    obtain ⟨Pn6, ePn6⟩ : ∃ z : SR, z = (f_X2_readNumber P (chI 0)).2 := ⟨_, rfl⟩
    rw [sLet_eq, ← ePn6] at hR
    rw [← ePn6] at hP hD
    have hp7 : WFP Pn6 := by rw [ePn6]; exact hens4
    exact W.iret (v := (f_X2_readNumber P (chI 0)).1) hx hb hr (fun t ht hWw => ⟨⟨(f_X2_readNumber P (chI 0)).1, Pn6, rfl, ⟨hR.symm.trans eR, hp7⟩, by rw [ht]; exact hP, hD⟩, hS.F ht⟩) hS.2.2 dX2_readValue_45
  · rw [if_neg c1] at hR
    rcases Decidable.em (p1 = 1) with c8 | c8
    · rw [if_pos c8] at hR
      refine lv_tableIn (tgt := 46) hx hb dX2_readValue_1 (by rw [c8]; decide) (by rw [c8]; decide) (by rw [c8]; rfl) (by decide) ?_
      refine lv_aload_n hx hb dX2_readValue_46 rfl (lv_at hl 0 rfl) ?_
      refine va_getsN hx hb hZc hS hown (va_Nw.use rfl (hN.at 37 rfl)) (fun _ h9 => h9) dX2_readValue_47 ?_
      refine lv_iconst (v := 1) hx hb dX2_readValue_50 (by decide) ?_
      refine va_ti (v := .int (chI 1)) hx hb hTc hS (vp_of_B (by decide +kernel : vp_okB (1) 5 = true)) rfl dX2_readValue_51 ?_
      refine lv_eqi (y := chI 1) rfl ?_
      have hPc : va_P (dC, dI) vwCl (cPt a cC P) s.heap := hP.sub [0, 1] rfl
      have hDc : va_D (va_A (cPt a cC P) s.heap.size) (cPt a cC P) := hD.sub [0, 1] (by decide) rfl
      have hFc : ∀ q : Nat, va_A (cPt a cC P) s.heap.size q → (va_A (cPt a cC P) s.heap.size) q := va_free hD hS hA [0, 1] rfl
      refine va_calli (va_runV (As := [.int (chI 1)]) (rest := []) ⟨hx, hb, hml, hown, hts⟩ (c_X2_readNumber l dC dI cI cC cS a P s.heap.size (chI 1) hp) (cwV 1 hts gX2_readValue_X2_readNumber rfl rfl rfl (by decide +kernel) ⟨Nat.le_of_ble_eq_true rfl, Nat.le_of_ble_eq_true rfl⟩) (pV (q0 := 0) hK hPc hDc hN rfl rfl) rfl rfl hl.1 rfl (lv_room (Nat.le_of_ble_eq_true rfl)) dX2_readValue_52 ⟨Nat.le_of_ble_eq_true rfl, Nat.le_of_ble_eq_true rfl⟩) hS (fun q _ h => hFc q h) hFc (fun r_9 u_9 t_9 H10 locs ht hvm hw hB hz1 hk1 hS => ?_)
      obtain ⟨hw, hens11, hens12⟩ := hw
      obtain ⟨hP1, hD1⟩ := hB
      rw [ht] at hP1
      have hw1 : r_9 = (f_X2_readNumber P (chI 1)).1 := congrArg Prod.fst hw
      have hw2 : u_9 = (f_X2_readNumber P (chI 1)).2 := congrArg Prod.snd hw
      clear hw
      subst hw1
      subst hw2
      obtain ⟨hP, hD⟩ := va_join (wc := cPt a cC P) (wr := []) (w1 := cPt a cC ((f_X2_readNumber P (chI 1)).2)) hP hD [0, 1] [] rfl rfl (by decide) (by decide) hk1 hFc hP1 hD1
      have hP : va_P (dC, dI) vwCl (cPt a cC ((f_X2_readNumber P (chI 1)).2)) H10 := hP.sub [0, 1] rfl
      have hD : va_D (va_A (cPt a cC P) s.heap.size) (cPt a cC ((f_X2_readNumber P (chI 1)).2)) := hD.sub [0, 1] (by decide) rfl
      obtain ⟨Pn13, ePn13⟩ : ∃ z : SR, z = (f_X2_readNumber P (chI 1)).2 := ⟨_, rfl⟩
      rw [sLet_eq, ← ePn13] at hR
      rw [← ePn13] at hP hD
      have hp14 : WFP Pn13 := by rw [ePn13]; exact hens11
      exact W.iret (v := (f_X2_readNumber P (chI 1)).1) hx hb hr (fun t ht hWw => ⟨⟨(f_X2_readNumber P (chI 1)).1, Pn13, rfl, ⟨hR.symm.trans eR, hp14⟩, by rw [ht]; exact hP, hD⟩, hS.F ht⟩) hS.2.2 dX2_readValue_55
    · rw [if_neg c8] at hR
      rcases Decidable.em (p1 = 2) with c15 | c15
      · rw [if_pos c15] at hR
        refine lv_tableIn (tgt := 61) hx hb dX2_readValue_1 (by rw [c15]; decide) (by rw [c15]; decide) (by rw [c15]; rfl) (by decide) ?_
        refine lv_iconst (v := 1) hx hb dX2_readValue_61 (by decide) ?_
        exact W.iret (v := 1) hx hb hr (fun t ht hWw => ⟨⟨1, P, rfl, ⟨hR.symm.trans eR, hp⟩, by rw [ht]; exact hP, hD⟩, hS.F ht⟩) hS.2.2 dX2_readValue_62
      · rw [if_neg c15] at hR
        rcases Decidable.em (p1 = 3) with c16 | c16
        · rw [if_pos c16] at hR
          refine lv_tableIn (tgt := 61) hx hb dX2_readValue_1 (by rw [c16]; decide) (by rw [c16]; decide) (by rw [c16]; rfl) (by decide) ?_
          refine lv_iconst (v := 1) hx hb dX2_readValue_61 (by decide) ?_
          exact W.iret (v := 1) hx hb hr (fun t ht hWw => ⟨⟨1, P, rfl, ⟨hR.symm.trans eR, hp⟩, by rw [ht]; exact hP, hD⟩, hS.F ht⟩) hS.2.2 dX2_readValue_62
        · rw [if_neg c16] at hR
          rcases Decidable.em (p1 = 4) with c17 | c17
          · rw [if_pos c17] at hR
            refine lv_tableIn (tgt := 56) hx hb dX2_readValue_1 (by rw [c17]; decide) (by rw [c17]; decide) (by rw [c17]; rfl) (by decide) ?_
            refine lv_aload_n hx hb dX2_readValue_56 rfl (lv_at hl 0 rfl) ?_
            have hPc : va_P (dC, dI) vwCl (cPt a cC P) s.heap := hP.sub [0, 1] rfl
            have hDc : va_D (va_A (cPt a cC P) s.heap.size) (cPt a cC P) := hD.sub [0, 1] (by decide) rfl
            have hFc : ∀ q : Nat, va_A (cPt a cC P) s.heap.size q → (va_A (cPt a cC P) s.heap.size) q := va_free hD hS hA [0, 1] rfl
            refine va_calli (va_runV (As := []) (rest := []) ⟨hx, hb, hml, hown, hts⟩ (c_X2_readGroups l dC dI cI cC cS a P s.heap.size hp) (cwV 0 hts gX2_readValue_X2_readGroups rfl rfl rfl (by decide +kernel) ⟨Nat.le_of_ble_eq_true rfl, Nat.le_of_ble_eq_true rfl⟩) (pV (q0 := 0) hK hPc hDc hN rfl rfl) rfl rfl hl.1 rfl (lv_room (Nat.le_of_ble_eq_true rfl)) dX2_readValue_57 ⟨Nat.le_of_ble_eq_true rfl, Nat.le_of_ble_eq_true rfl⟩) hS (fun q _ h => hFc q h) hFc (fun r_18 u_18 t_18 H19 locs ht hvm hw hB hz1 hk1 hS => ?_)
            obtain ⟨hw, hens20⟩ := hw
            obtain ⟨hP1, hD1⟩ := hB
            rw [ht] at hP1
            have hw1 : r_18 = (f_X2_readGroups P).1 := congrArg Prod.fst hw
            have hw2 : u_18 = (f_X2_readGroups P).2 := congrArg Prod.snd hw
            clear hw
            subst hw1
            subst hw2
            obtain ⟨hP, hD⟩ := va_join (wc := cPt a cC P) (wr := []) (w1 := cPt a cC ((f_X2_readGroups P).2)) hP hD [0, 1] [] rfl rfl (by decide) (by decide) hk1 hFc hP1 hD1
            have hP : va_P (dC, dI) vwCl (cPt a cC ((f_X2_readGroups P).2)) H19 := hP.sub [0, 1] rfl
            have hD : va_D (va_A (cPt a cC P) s.heap.size) (cPt a cC ((f_X2_readGroups P).2)) := hD.sub [0, 1] (by decide) rfl
            obtain ⟨Pn21, ePn21⟩ : ∃ z : SR, z = (f_X2_readGroups P).2 := ⟨_, rfl⟩
            rw [sLet_eq, ← ePn21] at hR
            rw [← ePn21] at hP hD
            have hp22 : WFP Pn21 := by rw [ePn21]; exact hens20
            exact W.iret (v := (f_X2_readGroups P).1) hx hb hr (fun t ht hWw => ⟨⟨(f_X2_readGroups P).1, Pn21, rfl, ⟨hR.symm.trans eR, hp22⟩, by rw [ht]; exact hP, hD⟩, hS.F ht⟩) hS.2.2 dX2_readValue_60
          · rw [if_neg c17] at hR
            have tz0 : ¬ p1.toInt = 0 := fun h => c1 (Int32.toInt_inj.mp (h.trans (by decide)))
            have tz1 : ¬ p1.toInt = 1 := fun h => c8 (Int32.toInt_inj.mp (h.trans (by decide)))
            have tz2 : ¬ p1.toInt = 2 := fun h => c15 (Int32.toInt_inj.mp (h.trans (by decide)))
            have tz3 : ¬ p1.toInt = 3 := fun h => c16 (Int32.toInt_inj.mp (h.trans (by decide)))
            have tz4 : ¬ p1.toInt = 4 := fun h => c17 (Int32.toInt_inj.mp (h.trans (by decide)))
            refine lv_tableOut (tgt := 61) hx hb dX2_readValue_1 (by omega) (by decide) ?_
            refine lv_iconst (v := 1) hx hb dX2_readValue_61 (by decide) ?_
            exact W.iret (v := 1) hx hb hr (fun t ht hWw => ⟨⟨1, P, rfl, ⟨hR.symm.trans eR, hp⟩, by rw [ht]; exact hP, hD⟩, hS.F ht⟩) hS.2.2 dX2_readValue_62
abbrev rm_X2_readChannelItem : Room := { frames := 5, cells := 0, slots := 0, locals := 113 }
def f_X2_readChannelItem_p44  (kb19 : Int32 → Int32 → Int32 → SR → SR → (Int32 × SR × SR)) (x2_44 : Int32) (x3_44 : Int32) (x4_44 : Int32)  (P_44 : SR) (M_44 : SR) : Int32 × SR × SR := sLet ((f_X2_readLetter P_44 x3_44).2) (fun Pn13 : SR => (if ((f_X2_readLetter P_44 x3_44).1) = (-1) then (0, Pn13, M_44) else sLet ((f_X2_readValue Pn13 ((f_X2_readLetter P_44 x3_44).1)).2) (fun Pn19 : SR => (if ((f_X2_readValue Pn13 ((f_X2_readLetter P_44 x3_44).1)).1) = (-1) then (0, Pn19, M_44) else sLet ((f_X4_setChannelByHand M_44 x2_44 ((f_X2_readLetter P_44 x3_44).1) ((f_X2_readValue Pn13 ((f_X2_readLetter P_44 x3_44).1)).1))) (fun Mn25 : SR => kb19 x2_44 (x3_44 ||| (1 <<< (((f_X2_readLetter P_44 x3_44).1) &&& 31))) (x4_44 + 1) Pn19 Mn25)))))
def f_X2_readChannelItem_p19   : Nat → Int32 → Int32 → Int32 → SR → SR → (Int32 × SR × SR)
  | 0, _, _, _, P_19, M_19 => (0, P_19, M_19)
  | n_19 + 1, x2_19, x3_19, x4_19, P_19, M_19 => (if 5 < x4_19 then (0, P_19, M_19) else (if x4_19 ≤ 0 then f_X2_readChannelItem_p44 (f_X2_readChannelItem_p19 n_19) x2_19 x3_19 x4_19 P_19 M_19 else sLet ((f_X2_takes P_19 59).2) (fun Pn32 : SR => (if ((f_X2_takes P_19 59).1) = 0 then f_X2_readChannelItem_p44 (f_X2_readChannelItem_p19 n_19) x2_19 x3_19 x4_19 Pn32 M_19 else (1, Pn32, M_19)))))
def f_X2_readChannelItem (P : SR) (M : SR)  : Int32 × SR × SR := sLet ((f_X2_readNumber P 11).2) (fun Pn5 : SR => (if ((f_X2_readNumber P 11).1) = (-1) then (0, Pn5, M) else f_X2_readChannelItem_p19 7 ((f_X2_readNumber P 11).1) 0 0 Pn5 M))
set_option maxHeartbeats 4000000 in
set_option maxRecDepth 100000 in
theorem c_X2_readChannelItem (l : Launch) (dC : Nat → ClassId) (dI : Nat → Nat → Nat) (cI cC cS : ClassId) (a : Nat → Nat) (b : Nat → Nat) (P : SR) (M : SR) (sz : Nat)  (hp : WFP P) (hW : WF M) : Met l yX2_readChannelItem wsX2_readChannelItem rm_X2_readChannelItem (PcS (dC, dI) (tyL cI cC cS) (cPt a cC P ++ cSt b cI M) sz [.ref (a 0), .ref (b 0)] (va_A (cPt a cC P ++ cSt b cI M) sz)) (va_Qi (fun (r : Int32) (u : SR × SR) => (r, u) = f_X2_readChannelItem P M ∧ (WFP u.1) ∧ (WF u.2) ∧ (r = 0 ∨ r = 1)) (fun u U => va_P (dC, dI) vwCl (cPt a cC u.1 ++ cSt b cI u.2) U.heap ∧ va_D (va_A (cPt a cC P ++ cSt b cI M) sz) (cPt a cC u.1 ++ cSt b cI u.2)) (va_A (cPt a cC P ++ cSt b cI M) sz)) 0 0 (va_A (cPt a cC P ++ cSt b cI M) sz) := by
  refine Met.ofW (cc := cX2_readChannelItem) (maxL := 7) (ret := (some .boolean)) (by decide) rfl ?_
  intro p e s m args below meth c s₁ B hml hv
  obtain ⟨rfl, hsz, hP, hK, hD0, hN, hT⟩ := hv
  have hx := B.exec
  have hb := B.bytes
  have hr := B.returns
  have hts := atoms_spec (ws := wsX2_readChannelItem) B.pre
  have hown : s.vm.findClass RX2 = some m.cls := findClass_of_methodNamed B.named
  have hlocks := B.notSynchronized
  subst hsz
  obtain ⟨⟨tc, hZc, hTc⟩, ⟨tg, hZg, hTg⟩, ⟨ks, kv, hSk, hSr⟩⟩ := id hT
  have hD := hD0.self (sz := s.heap.size)
  have hA : ∀ q : Nat, s.heap.size ≤ q → (va_A (cPt a cC P ++ cSt b cI M) s.heap.size) q := fun q h => Or.inr h
  have hS : va_S (va_A (cPt a cC P ++ cSt b cI M) s.heap.size) s.heap s.heap [] := va_S.rf
  have hl := lv_entry [.ref (a 0), .ref (b 0)] (n := 7) (Nat.le_of_ble_eq_true rfl)
  rw [lg_entry_eq]
  generalize (lg_sl [.ref (a 0), .ref (b 0)] ++ List.replicate (7 - (lg_sl [.ref (a 0), .ref (b 0)]).length) Slot.unset).toArray = ls at hl ⊢
  have hl : lv_has ls 7 [(0, .ref (a 0)), (1, .ref (b 0))] := hl
  obtain ⟨R0, eR⟩ : ∃ z, z = f_X2_readChannelItem P M := ⟨_, rfl⟩
  have hR := eR
  rw [f_X2_readChannelItem] at hR
  refine lv_aload_n hx hb dX2_readChannelItem_0 rfl (lv_at hl 0 rfl) ?_
  refine lv_bipush (v := 11) hx hb dX2_readChannelItem_1 (by decide) ?_
  have hPc : va_P (dC, dI) vwCl (cPt a cC P) s.heap := hP.sub [0, 1] rfl
  have hDc : va_D (va_A (cPt a cC P ++ cSt b cI M) s.heap.size) (cPt a cC P) := hD.sub [0, 1] (by decide) rfl
  have hFc : ∀ q : Nat, va_A (cPt a cC P) s.heap.size q → (va_A (cPt a cC P ++ cSt b cI M) s.heap.size) q := va_free hD hS hA [0, 1] rfl
  refine va_calli (va_runV (As := [.int 11]) (rest := []) ⟨hx, hb, hml, hown, hts⟩ (c_X2_readNumber l dC dI cI cC cS a P s.heap.size 11 hp) (cwV 1 hts gX2_readChannelItem_X2_readNumber rfl rfl rfl (by decide +kernel) ⟨Nat.le_of_ble_eq_true rfl, Nat.le_of_ble_eq_true rfl⟩) (pV (q0 := 0) hK hPc hDc hN rfl rfl) rfl rfl hl.1 rfl (lv_room (Nat.le_of_ble_eq_true rfl)) dX2_readChannelItem_3 ⟨Nat.le_of_ble_eq_true rfl, Nat.le_of_ble_eq_true rfl⟩) hS (fun q _ h => hFc q h) hFc (fun r_1 u_1 t_1 H2 locs ht hvm hw hB hz1 hk1 hS => ?_)
  obtain ⟨hw, hens3, hens4⟩ := hw
  obtain ⟨hP1, hD1⟩ := hB
  rw [ht] at hP1
  have hw1 : r_1 = (f_X2_readNumber P 11).1 := congrArg Prod.fst hw
  have hw2 : u_1 = (f_X2_readNumber P 11).2 := congrArg Prod.snd hw
  clear hw
  subst hw1
  subst hw2
  obtain ⟨hP, hD⟩ := va_join (wc := cPt a cC P) (wr := [(b 0, .inr (4, [.ref (b 1), .ref (b 2), .ref (b 3), .int (M 10 0), .int (M 10 1), .int (M 10 2), .ref (b 4), .ref (b 5), .ref (b 6), .ref (b 7), .ref (b 8), .int (M 10 3), .int (M 10 4), .int (M 10 5), .int (M 10 6), .ref (b 9), .int (M 10 7), .ref (b 10)])), (b 1, .inl (cI, 12, .inl (M 0))), (b 2, .inl (cI, 16, .inl (M 1))), (b 3, .inl (cI, 12, .inl (M 2))), (b 4, .inl (cI, 48, .inl (M 3))), (b 5, .inl (cI, 4, .inl (M 4))), (b 6, .inl (cI, 4, .inl (M 5))), (b 7, .inl (cI, 12, .inl (M 6))), (b 8, .inl (cI, 4, .inl (M 7))), (b 9, .inl (cI, 102, .inl (M 8))), (b 10, .inr (0, [.int (M 11 0), .int (M 11 1), .int (M 11 2), .int (M 11 3), .ref (b 11)])), (b 11, .inl (cI, 16, .inl (M 9)))]) (w1 := cPt a cC ((f_X2_readNumber P 11).2)) hP hD [0, 1] [2, 3, 4, 5, 6, 7, 8, 9, 10, 11, 12, 13] rfl rfl (by decide) (by decide) hk1 hFc hP1 hD1
  have hP : va_P (dC, dI) vwCl (cPt a cC ((f_X2_readNumber P 11).2) ++ cSt b cI M) H2 := hP.sub [12, 13, 0, 1, 2, 3, 4, 5, 6, 7, 8, 9, 10, 11] rfl
  have hD : va_D (va_A (cPt a cC P ++ cSt b cI M) s.heap.size) (cPt a cC ((f_X2_readNumber P 11).2) ++ cSt b cI M) := hD.sub [12, 13, 0, 1, 2, 3, 4, 5, 6, 7, 8, 9, 10, 11] (by decide) rfl
  obtain ⟨Pn5, ePn5⟩ : ∃ z : SR, z = (f_X2_readNumber P 11).2 := ⟨_, rfl⟩
  rw [sLet_eq, ← ePn5] at hR
  rw [← ePn5] at hP hD
  have hp6 : WFP Pn5 := by rw [ePn5]; exact hens3
  refine lv_istore_n (lv' := [(2, .int ((f_X2_readNumber P 11).1)), (0, .ref (a 0)), (1, .ref (b 0))]) hx hb dX2_readChannelItem_6 rfl hl (by decide) rfl (fun ls hl => ?_)
  refine lv_iload_n hx hb dX2_readChannelItem_7 rfl (lv_at hl 0 rfl) ?_
  refine lv_iconst (v := (-1)) hx hb dX2_readChannelItem_8 (by decide) ?_
  refine lv_icmp_ne (tgt := 14) hx hb dX2_readChannelItem_9 (by decide) (fun c7 => ?_) (fun c7 => ?_)
  · rw [if_neg c7] at hR
    refine lv_iconst (v := 0) hx hb dX2_readChannelItem_14 (by decide) ?_
    refine lv_istore_n (lv' := [(3, .int 0), (2, .int ((f_X2_readNumber P 11).1)), (0, .ref (a 0)), (1, .ref (b 0))]) hx hb dX2_readChannelItem_15 rfl hl (by decide) rfl (fun ls hl => ?_)
    refine lv_iconst (v := 0) hx hb dX2_readChannelItem_16 (by decide) ?_
    refine lv_istore (lv' := [(4, .int 0), (3, .int 0), (2, .int ((f_X2_readNumber P 11).1)), (0, .ref (a 0)), (1, .ref (b 0))]) hx hb dX2_readChannelItem_17 hl (by decide) rfl (fun ls hl => ?_)
    have hL_19 : ∀ n_19 : Nat, ∀ (j_19 : Nat), ∀ (x2_19 : Int32) (x3_19 : Int32) (x4_19 : Int32) (P_19 : SR) (M_19 : SR), x4_19 = nI j_19 → j_19 ≤ 6 → 6 < j_19 + n_19 → WFP P_19 → WF M_19 → vp_in x2_19 12 → R0 = f_X2_readChannelItem_p19 n_19 x2_19 x3_19 x4_19 P_19 M_19 → ∀ (H : Heap) (locs : List Loc) (ls : Array Slot), va_P (dC, dI) vwCl (cPt a cC P_19 ++ cSt b cI M_19) H → va_D (va_A (cPt a cC P ++ cSt b cI M) s.heap.size) (cPt a cC P_19 ++ cSt b cI M_19) → va_S (va_A (cPt a cC P ++ cSt b cI M) s.heap.size) s.heap H locs → lv_has ls 7 [(0, .ref (a 0)), (1, .ref (b 0)), (2, .int x2_19), (3, .int x3_19), (4, .int x4_19)] → W p l e (headSpec wsX2_readChannelItem rm_X2_readChannelItem).room s m ([.ref (a 0), .ref (b 0)] : List Value).toArray below meth c H locs 0 0 (MQ below (va_Qi (fun (r : Int32) (u : SR × SR) => (r, u) = f_X2_readChannelItem P M ∧ (WFP u.1) ∧ (WF u.2) ∧ (r = 0 ∨ r = 1)) (fun u U => va_P (dC, dI) vwCl (cPt a cC u.1 ++ cSt b cI u.2) U.heap ∧ va_D (va_A (cPt a cC P ++ cSt b cI M) s.heap.size) (cPt a cC u.1 ++ cSt b cI u.2)) (va_A (cPt a cC P ++ cSt b cI M) s.heap.size)) ([.ref (a 0), .ref (b 0)] : List Value).toArray s 0 0 (va_A (cPt a cC P ++ cSt b cI M) s.heap.size)) (F0 m 19 ls []) := by
      intro n_19
      induction n_19 with
      | zero =>
        intro j_19 x2_19 x3_19 x4_19 P_19 M_19 ex4_19 hj0_19 hn_19 hp_19 hW_19 hc_19
        exact absurd hn_19 (by omega)
      | succ n_19 ih_19 =>
        intro j_19 x2_19 x3_19 x4_19 P_19 M_19 ex4_19 hj0_19 hn_19 hp_19 hW_19 hc_19 hR H locs ls hP hD hS hl
        rw [f_X2_readChannelItem_p19] at hR
        refine lv_iload hx hb dX2_readChannelItem_19 (lv_at hl 4 rfl) ?_
        refine va_getsN hx hb hZc hS hown (va_Nw.use rfl (hN.at 37 rfl)) (fun _ h9 => h9) dX2_readChannelItem_21 ?_
        refine va_tlen (v := 5) hx hb hTc hS (by decide +kernel) dX2_readChannelItem_24 ?_
        refine lv_icmp_gt (tgt := 97) hx hb dX2_readChannelItem_25 (by decide) (fun c8 => ?_) (fun c8 => ?_)
        · rw [if_pos c8] at hR
          refine lv_iconst (v := 0) hx hb dX2_readChannelItem_97 (by decide) ?_
          exact W.zret (v := 0) hx hb hr rfl (fun t ht hWw => ⟨⟨0, (P_19, M_19), rfl, ⟨hR.symm.trans eR, hp_19, hW_19, (Or.inl rfl)⟩, by rw [ht]; exact hP, hD⟩, hS.F ht⟩) hS.2.2 dX2_readChannelItem_98
        · rw [if_neg c8] at hR
          have hj_19 : j_19 < 6 := lp_gt ex4_19 (by decide +kernel) (by omega) (by omega) c8
          refine lv_iload hx hb dX2_readChannelItem_28 (lv_at hl 4 rfl) ?_
          have hJ_44 : ∀ (x2_44 : Int32) (x3_44 : Int32) (x4_44 : Int32)  (P_44 : SR) (M_44 : SR), x4_44 = nI j_19 → WFP P_44 → WF M_44 → vp_in x2_44 12 → R0 = f_X2_readChannelItem_p44 (f_X2_readChannelItem_p19 n_19) x2_44 x3_44 x4_44 P_44 M_44 → ∀ (H : Heap) (locs : List Loc) (ls : Array Slot), va_P (dC, dI) vwCl (cPt a cC P_44 ++ cSt b cI M_44) H → va_D (va_A (cPt a cC P ++ cSt b cI M) s.heap.size) (cPt a cC P_44 ++ cSt b cI M_44) → va_S (va_A (cPt a cC P ++ cSt b cI M) s.heap.size) s.heap H locs → lv_has ls 7 [(0, .ref (a 0)), (1, .ref (b 0)), (2, .int x2_44), (3, .int x3_44), (4, .int x4_44)] → W p l e (headSpec wsX2_readChannelItem rm_X2_readChannelItem).room s m ([.ref (a 0), .ref (b 0)] : List Value).toArray below meth c H locs 0 0 (MQ below (va_Qi (fun (r : Int32) (u : SR × SR) => (r, u) = f_X2_readChannelItem P M ∧ (WFP u.1) ∧ (WF u.2) ∧ (r = 0 ∨ r = 1)) (fun u U => va_P (dC, dI) vwCl (cPt a cC u.1 ++ cSt b cI u.2) U.heap ∧ va_D (va_A (cPt a cC P ++ cSt b cI M) s.heap.size) (cPt a cC u.1 ++ cSt b cI u.2)) (va_A (cPt a cC P ++ cSt b cI M) s.heap.size)) ([.ref (a 0), .ref (b 0)] : List Value).toArray s 0 0 (va_A (cPt a cC P ++ cSt b cI M) s.heap.size)) (F0 m 44 ls []) := by
            intro x2_44 x3_44 x4_44 P_44 M_44 ex4_44 hp_44 hW_44 hc_44 hR H locs ls hP hD hS hl
            rw [f_X2_readChannelItem_p44] at hR
            refine lv_aload_n hx hb dX2_readChannelItem_44 rfl (lv_at hl 0 rfl) ?_
            refine lv_iload_n hx hb dX2_readChannelItem_45 rfl (lv_at hl 3 rfl) ?_
            have hPc : va_P (dC, dI) vwCl (cPt a cC P_44) H := hP.sub [0, 1] rfl
            have hDc : va_D (va_A (cPt a cC P ++ cSt b cI M) s.heap.size) (cPt a cC P_44) := hD.sub [0, 1] (by decide) rfl
            have hFc : ∀ q : Nat, va_A (cPt a cC P_44) H.size q → (va_A (cPt a cC P ++ cSt b cI M) s.heap.size) q := va_free hD hS hA [0, 1] rfl
            refine va_calli (va_runV (As := [.int x3_44]) (rest := []) ⟨hx, hb, hml, hown, hts⟩ (c_X2_readLetter l dC dI cI cC cS a P_44 H.size x3_44 hp_44) (cwV 1 hts gX2_readChannelItem_X2_readLetter rfl rfl rfl (by decide +kernel) ⟨Nat.le_of_ble_eq_true rfl, Nat.le_of_ble_eq_true rfl⟩) (pVS (q0 := 0) hK hPc hDc hN hT hS hFc rfl rfl) rfl rfl hl.1 rfl (lv_room (Nat.le_of_ble_eq_true rfl)) dX2_readChannelItem_46 ⟨Nat.le_of_ble_eq_true rfl, Nat.le_of_ble_eq_true rfl⟩) hS (fun q _ h => hFc q h) hFc (fun r_9 u_9 t_9 H10 locs ht hvm hw hB hz1 hk1 hS => ?_)
            obtain ⟨hw, hens11, hens12⟩ := hw
            obtain ⟨hP1, hD1⟩ := hB
            rw [ht] at hP1
            have hw1 : r_9 = (f_X2_readLetter P_44 x3_44).1 := congrArg Prod.fst hw
            have hw2 : u_9 = (f_X2_readLetter P_44 x3_44).2 := congrArg Prod.snd hw
            clear hw
            subst hw1
            subst hw2
            obtain ⟨hP, hD⟩ := va_join (wc := cPt a cC P_44) (wr := [(b 0, .inr (4, [.ref (b 1), .ref (b 2), .ref (b 3), .int (M_44 10 0), .int (M_44 10 1), .int (M_44 10 2), .ref (b 4), .ref (b 5), .ref (b 6), .ref (b 7), .ref (b 8), .int (M_44 10 3), .int (M_44 10 4), .int (M_44 10 5), .int (M_44 10 6), .ref (b 9), .int (M_44 10 7), .ref (b 10)])), (b 1, .inl (cI, 12, .inl (M_44 0))), (b 2, .inl (cI, 16, .inl (M_44 1))), (b 3, .inl (cI, 12, .inl (M_44 2))), (b 4, .inl (cI, 48, .inl (M_44 3))), (b 5, .inl (cI, 4, .inl (M_44 4))), (b 6, .inl (cI, 4, .inl (M_44 5))), (b 7, .inl (cI, 12, .inl (M_44 6))), (b 8, .inl (cI, 4, .inl (M_44 7))), (b 9, .inl (cI, 102, .inl (M_44 8))), (b 10, .inr (0, [.int (M_44 11 0), .int (M_44 11 1), .int (M_44 11 2), .int (M_44 11 3), .ref (b 11)])), (b 11, .inl (cI, 16, .inl (M_44 9)))]) (w1 := cPt a cC ((f_X2_readLetter P_44 x3_44).2)) hP hD [0, 1] [2, 3, 4, 5, 6, 7, 8, 9, 10, 11, 12, 13] rfl rfl (by decide) (by decide) hk1 hFc hP1 hD1
            have hP : va_P (dC, dI) vwCl (cPt a cC ((f_X2_readLetter P_44 x3_44).2) ++ cSt b cI M_44) H10 := hP.sub [12, 13, 0, 1, 2, 3, 4, 5, 6, 7, 8, 9, 10, 11] rfl
            have hD : va_D (va_A (cPt a cC P ++ cSt b cI M) s.heap.size) (cPt a cC ((f_X2_readLetter P_44 x3_44).2) ++ cSt b cI M_44) := hD.sub [12, 13, 0, 1, 2, 3, 4, 5, 6, 7, 8, 9, 10, 11] (by decide) rfl
            obtain ⟨Pn13, ePn13⟩ : ∃ z : SR, z = (f_X2_readLetter P_44 x3_44).2 := ⟨_, rfl⟩
            rw [sLet_eq, ← ePn13] at hR
            rw [← ePn13] at hP hD
            have hp14 : WFP Pn13 := by rw [ePn13]; exact hens11
            refine lv_istore (lv' := [(5, .int ((f_X2_readLetter P_44 x3_44).1)), (0, .ref (a 0)), (1, .ref (b 0)), (2, .int x2_44), (3, .int x3_44), (4, .int x4_44)]) hx hb dX2_readChannelItem_49 hl (by decide) rfl (fun ls hl => ?_)
            refine lv_iload hx hb dX2_readChannelItem_51 (lv_at hl 0 rfl) ?_
            refine lv_iconst (v := (-1)) hx hb dX2_readChannelItem_53 (by decide) ?_
            refine lv_icmp_ne (tgt := 59) hx hb dX2_readChannelItem_54 (by decide) (fun c15 => ?_) (fun c15 => ?_)
            · rw [if_neg c15] at hR
              refine lv_aload_n hx hb dX2_readChannelItem_59 rfl (lv_at hl 1 rfl) ?_
              refine lv_iload hx hb dX2_readChannelItem_60 (lv_at hl 0 rfl) ?_
              have hPc : va_P (dC, dI) vwCl (cPt a cC Pn13) H10 := hP.sub [0, 1] rfl
              have hDc : va_D (va_A (cPt a cC P ++ cSt b cI M) s.heap.size) (cPt a cC Pn13) := hD.sub [0, 1] (by decide) rfl
              have hFc : ∀ q : Nat, va_A (cPt a cC Pn13) H10.size q → (va_A (cPt a cC P ++ cSt b cI M) s.heap.size) q := va_free hD hS hA [0, 1] rfl
              refine va_calli (va_runV (As := [.int ((f_X2_readLetter P_44 x3_44).1)]) (rest := []) ⟨hx, hb, hml, hown, hts⟩ (c_X2_readValue l dC dI cI cC cS a Pn13 H10.size ((f_X2_readLetter P_44 x3_44).1) hp14) (cwV 1 hts gX2_readChannelItem_X2_readValue rfl rfl rfl (by decide +kernel) ⟨Nat.le_of_ble_eq_true rfl, Nat.le_of_ble_eq_true rfl⟩) (pVS (q0 := 0) hK hPc hDc hN hT hS hFc rfl rfl) rfl rfl hl.1 rfl (lv_room (Nat.le_of_ble_eq_true rfl)) dX2_readChannelItem_62 ⟨Nat.le_of_ble_eq_true rfl, Nat.le_of_ble_eq_true rfl⟩) hS (fun q _ h => hFc q h) hFc (fun r_16 u_16 t_16 H17 locs ht hvm hw hB hz1 hk1 hS => ?_)
              obtain ⟨hw, hens18⟩ := hw
              obtain ⟨hP1, hD1⟩ := hB
              rw [ht] at hP1
              have hw1 : r_16 = (f_X2_readValue Pn13 ((f_X2_readLetter P_44 x3_44).1)).1 := congrArg Prod.fst hw
              have hw2 : u_16 = (f_X2_readValue Pn13 ((f_X2_readLetter P_44 x3_44).1)).2 := congrArg Prod.snd hw
              clear hw
              subst hw1
              subst hw2
              obtain ⟨hP, hD⟩ := va_join (wc := cPt a cC Pn13) (wr := [(b 0, .inr (4, [.ref (b 1), .ref (b 2), .ref (b 3), .int (M_44 10 0), .int (M_44 10 1), .int (M_44 10 2), .ref (b 4), .ref (b 5), .ref (b 6), .ref (b 7), .ref (b 8), .int (M_44 10 3), .int (M_44 10 4), .int (M_44 10 5), .int (M_44 10 6), .ref (b 9), .int (M_44 10 7), .ref (b 10)])), (b 1, .inl (cI, 12, .inl (M_44 0))), (b 2, .inl (cI, 16, .inl (M_44 1))), (b 3, .inl (cI, 12, .inl (M_44 2))), (b 4, .inl (cI, 48, .inl (M_44 3))), (b 5, .inl (cI, 4, .inl (M_44 4))), (b 6, .inl (cI, 4, .inl (M_44 5))), (b 7, .inl (cI, 12, .inl (M_44 6))), (b 8, .inl (cI, 4, .inl (M_44 7))), (b 9, .inl (cI, 102, .inl (M_44 8))), (b 10, .inr (0, [.int (M_44 11 0), .int (M_44 11 1), .int (M_44 11 2), .int (M_44 11 3), .ref (b 11)])), (b 11, .inl (cI, 16, .inl (M_44 9)))]) (w1 := cPt a cC ((f_X2_readValue Pn13 ((f_X2_readLetter P_44 x3_44).1)).2)) hP hD [0, 1] [2, 3, 4, 5, 6, 7, 8, 9, 10, 11, 12, 13] rfl rfl (by decide) (by decide) hk1 hFc hP1 hD1
              have hP : va_P (dC, dI) vwCl (cPt a cC ((f_X2_readValue Pn13 ((f_X2_readLetter P_44 x3_44).1)).2) ++ cSt b cI M_44) H17 := hP.sub [12, 13, 0, 1, 2, 3, 4, 5, 6, 7, 8, 9, 10, 11] rfl
              have hD : va_D (va_A (cPt a cC P ++ cSt b cI M) s.heap.size) (cPt a cC ((f_X2_readValue Pn13 ((f_X2_readLetter P_44 x3_44).1)).2) ++ cSt b cI M_44) := hD.sub [12, 13, 0, 1, 2, 3, 4, 5, 6, 7, 8, 9, 10, 11] (by decide) rfl
              obtain ⟨Pn19, ePn19⟩ : ∃ z : SR, z = (f_X2_readValue Pn13 ((f_X2_readLetter P_44 x3_44).1)).2 := ⟨_, rfl⟩
              rw [sLet_eq, ← ePn19] at hR
              rw [← ePn19] at hP hD
              have hp20 : WFP Pn19 := by rw [ePn19]; exact hens18
              refine lv_istore (lv' := [(6, .int ((f_X2_readValue Pn13 ((f_X2_readLetter P_44 x3_44).1)).1)), (5, .int ((f_X2_readLetter P_44 x3_44).1)), (0, .ref (a 0)), (1, .ref (b 0)), (2, .int x2_44), (3, .int x3_44), (4, .int x4_44)]) hx hb dX2_readChannelItem_65 hl (by decide) rfl (fun ls hl => ?_)
              refine lv_iload hx hb dX2_readChannelItem_67 (lv_at hl 0 rfl) ?_
              refine lv_iconst (v := (-1)) hx hb dX2_readChannelItem_69 (by decide) ?_
              refine lv_icmp_ne (tgt := 75) hx hb dX2_readChannelItem_70 (by decide) (fun c21 => ?_) (fun c21 => ?_)
              · rw [if_neg c21] at hR
                refine lv_aload_n hx hb dX2_readChannelItem_75 rfl (lv_at hl 3 rfl) ?_
                refine lv_iload_n hx hb dX2_readChannelItem_76 rfl (lv_at hl 4 rfl) ?_
                refine lv_iload hx hb dX2_readChannelItem_77 (lv_at hl 1 rfl) ?_
                refine lv_iload hx hb dX2_readChannelItem_79 (lv_at hl 0 rfl) ?_
                have hPc : va_P (dC, dI) vwCl (cSt b cI M_44) H17 := hP.sub [2, 3, 4, 5, 6, 7, 8, 9, 10, 11, 12, 13] rfl
                have hDc : va_D (va_A (cPt a cC P ++ cSt b cI M) s.heap.size) (cSt b cI M_44) := hD.sub [2, 3, 4, 5, 6, 7, 8, 9, 10, 11, 12, 13] (by decide) rfl
                have hFc : ∀ q : Nat, va_A (cSt b cI M_44) H17.size q → (va_A (cPt a cC P ++ cSt b cI M) s.heap.size) q := va_free hD hS hA [2, 3, 4, 5, 6, 7, 8, 9, 10, 11, 12, 13] rfl
                refine va_callv (va_runV (As := [.int x2_44, .int ((f_X2_readLetter P_44 x3_44).1), .int ((f_X2_readValue Pn13 ((f_X2_readLetter P_44 x3_44).1)).1)]) (rest := []) ⟨hx, hb, hml, hown, hts⟩ (c_X4_setChannelByHand l dC dI cI cC cS b M_44 H17.size x2_44 ((f_X2_readLetter P_44 x3_44).1) ((f_X2_readValue Pn13 ((f_X2_readLetter P_44 x3_44).1)).1) hc_44 hW_44) (cwV 3 hts gX2_readChannelItem_X4_setChannelByHand rfl rfl rfl (by decide +kernel) ⟨Nat.le_of_ble_eq_true rfl, Nat.le_of_ble_eq_true rfl⟩) (pV (q0 := 0) hK hPc hDc hN rfl rfl) rfl rfl hl.1 rfl (lv_room (Nat.le_of_ble_eq_true rfl)) dX2_readChannelItem_81 ⟨Nat.le_of_ble_eq_true rfl, Nat.le_of_ble_eq_true rfl⟩) hS (fun q _ h => hFc q h) hFc (fun u_22 t_22 H23 locs ht hvm hw hB hz1 hk1 hS => ?_)
                obtain ⟨hw, hens24⟩ := hw
                obtain ⟨hP1, hD1⟩ := hB
                rw [ht] at hP1
                subst hw
                obtain ⟨hP, hD⟩ := va_join (wc := cSt b cI M_44) (wr := [(a 0, .inr (2, [.ref (a 1), .int (Pn19 1 0), .int (Pn19 1 1)])), (a 1, .inl (cC, 140, .inl (Pn19 0)))]) (w1 := cSt b cI (f_X4_setChannelByHand M_44 x2_44 ((f_X2_readLetter P_44 x3_44).1) ((f_X2_readValue Pn13 ((f_X2_readLetter P_44 x3_44).1)).1))) hP hD [2, 3, 4, 5, 6, 7, 8, 9, 10, 11, 12, 13] [0, 1] rfl rfl (by decide) (by decide) hk1 hFc hP1 hD1
                have hP : va_P (dC, dI) vwCl (cPt a cC Pn19 ++ cSt b cI (f_X4_setChannelByHand M_44 x2_44 ((f_X2_readLetter P_44 x3_44).1) ((f_X2_readValue Pn13 ((f_X2_readLetter P_44 x3_44).1)).1))) H23 := hP.sub [0, 1, 2, 3, 4, 5, 6, 7, 8, 9, 10, 11, 12, 13] rfl
                have hD : va_D (va_A (cPt a cC P ++ cSt b cI M) s.heap.size) (cPt a cC Pn19 ++ cSt b cI (f_X4_setChannelByHand M_44 x2_44 ((f_X2_readLetter P_44 x3_44).1) ((f_X2_readValue Pn13 ((f_X2_readLetter P_44 x3_44).1)).1))) := hD.sub [0, 1, 2, 3, 4, 5, 6, 7, 8, 9, 10, 11, 12, 13] (by decide) rfl
                obtain ⟨Mn25, eMn25⟩ : ∃ z : SR, z = (f_X4_setChannelByHand M_44 x2_44 ((f_X2_readLetter P_44 x3_44).1) ((f_X2_readValue Pn13 ((f_X2_readLetter P_44 x3_44).1)).1)) := ⟨_, rfl⟩
                rw [sLet_eq, ← eMn25] at hR
                rw [← eMn25] at hP hD
                have hW26 : WF Mn25 := by rw [eMn25]; exact hens24
                refine lv_iload_n hx hb dX2_readChannelItem_84 rfl (lv_at hl 5 rfl) ?_
                refine lv_iconst (v := 1) hx hb dX2_readChannelItem_85 (by decide) ?_
                refine lv_iload hx hb dX2_readChannelItem_86 (lv_at hl 1 rfl) ?_
                refine lv_ishl hx hb dX2_readChannelItem_88 ?_
                refine lv_ior hx hb dX2_readChannelItem_89 ?_
                refine lv_istore_n (lv' := [(3, .int (x3_44 ||| (1 <<< (((f_X2_readLetter P_44 x3_44).1) &&& 31)))), (6, .int ((f_X2_readValue Pn13 ((f_X2_readLetter P_44 x3_44).1)).1)), (5, .int ((f_X2_readLetter P_44 x3_44).1)), (0, .ref (a 0)), (1, .ref (b 0)), (2, .int x2_44), (4, .int x4_44)]) hx hb dX2_readChannelItem_90 rfl hl (by decide) rfl (fun ls hl => ?_)
                refine lv_iinc (v := x4_44 + 1) (lv' := [(4, .int (x4_44 + 1)), (3, .int (x3_44 ||| (1 <<< (((f_X2_readLetter P_44 x3_44).1) &&& 31)))), (6, .int ((f_X2_readValue Pn13 ((f_X2_readLetter P_44 x3_44).1)).1)), (5, .int ((f_X2_readLetter P_44 x3_44).1)), (0, .ref (a 0)), (1, .ref (b 0)), (2, .int x2_44)]) hx hb dX2_readChannelItem_91 hl (k := 6) rfl rfl (by decide) rfl (fun ls hl => ?_)
                refine lv_goto (tgt := 19) hx hb dX2_readChannelItem_94 (by decide) ?_
                exact ih_19 (j_19 + 1) x2_44 (x3_44 ||| (1 <<< (((f_X2_readLetter P_44 x3_44).1) &&& 31))) (x4_44 + 1) Pn19 Mn25 (by rw [ex4_44, nI_1]) (by omega) (by omega) hp20 hW26 hc_44 hR _ _ _ hP hD hS (lv_sub hl [4, 5, 6, 1, 0] rfl)
              · rw [if_pos c21] at hR
                refine lv_iconst (v := 0) hx hb dX2_readChannelItem_73 (by decide) ?_
                exact W.zret (v := 0) hx hb hr rfl (fun t ht hWw => ⟨⟨0, (Pn19, M_44), rfl, ⟨hR.symm.trans eR, hp20, hW_44, (Or.inl rfl)⟩, by rw [ht]; exact hP, hD⟩, hS.F ht⟩) hS.2.2 dX2_readChannelItem_74
            · rw [if_pos c15] at hR
              refine lv_iconst (v := 0) hx hb dX2_readChannelItem_57 (by decide) ?_
              exact W.zret (v := 0) hx hb hr rfl (fun t ht hWw => ⟨⟨0, (Pn13, M_44), rfl, ⟨hR.symm.trans eR, hp14, hW_44, (Or.inl rfl)⟩, by rw [ht]; exact hP, hD⟩, hS.F ht⟩) hS.2.2 dX2_readChannelItem_58
          refine lv_if_le (tgt := 44) hx hb dX2_readChannelItem_30 (by decide) (fun c27 => ?_) (fun c27 => ?_)
          · rw [if_pos c27] at hR
            exact hJ_44 x2_19 x3_19 x4_19 P_19 M_19 ex4_19 hp_19 hW_19 hc_19 hR _ _ _ hP hD hS (lv_sub hl [0, 1, 2, 3, 4] rfl)
          · rw [if_neg c27] at hR
            refine lv_aload_n hx hb dX2_readChannelItem_33 rfl (lv_at hl 0 rfl) ?_
            refine lv_bipush (v := 59) hx hb dX2_readChannelItem_34 (by decide) ?_
            have hPc : va_P (dC, dI) vwCl (cPt a cC P_19) H := hP.sub [0, 1] rfl
            have hDc : va_D (va_A (cPt a cC P ++ cSt b cI M) s.heap.size) (cPt a cC P_19) := hD.sub [0, 1] (by decide) rfl
            have hFc : ∀ q : Nat, va_A (cPt a cC P_19) H.size q → (va_A (cPt a cC P ++ cSt b cI M) s.heap.size) q := va_free hD hS hA [0, 1] rfl
            refine va_calli (va_runV (As := [.int 59]) (rest := []) ⟨hx, hb, hml, hown, hts⟩ (c_X2_takes l dC dI cI cC cS a P_19 H.size 59 hp_19) (cwV 1 hts gX2_readChannelItem_X2_takes rfl rfl rfl (by decide +kernel) ⟨Nat.le_of_ble_eq_true rfl, Nat.le_of_ble_eq_true rfl⟩) (pV (q0 := 0) hK hPc hDc hN rfl rfl) rfl rfl hl.1 rfl (lv_room (Nat.le_of_ble_eq_true rfl)) dX2_readChannelItem_36 ⟨Nat.le_of_ble_eq_true rfl, Nat.le_of_ble_eq_true rfl⟩) hS (fun q _ h => hFc q h) hFc (fun r_28 u_28 t_28 H29 locs ht hvm hw hB hz1 hk1 hS => ?_)
            obtain ⟨hw, hens30, hens31⟩ := hw
            obtain ⟨hP1, hD1⟩ := hB
            rw [ht] at hP1
            have hw1 : r_28 = (f_X2_takes P_19 59).1 := congrArg Prod.fst hw
            have hw2 : u_28 = (f_X2_takes P_19 59).2 := congrArg Prod.snd hw
            clear hw
            subst hw1
            subst hw2
            obtain ⟨hP, hD⟩ := va_join (wc := cPt a cC P_19) (wr := [(b 0, .inr (4, [.ref (b 1), .ref (b 2), .ref (b 3), .int (M_19 10 0), .int (M_19 10 1), .int (M_19 10 2), .ref (b 4), .ref (b 5), .ref (b 6), .ref (b 7), .ref (b 8), .int (M_19 10 3), .int (M_19 10 4), .int (M_19 10 5), .int (M_19 10 6), .ref (b 9), .int (M_19 10 7), .ref (b 10)])), (b 1, .inl (cI, 12, .inl (M_19 0))), (b 2, .inl (cI, 16, .inl (M_19 1))), (b 3, .inl (cI, 12, .inl (M_19 2))), (b 4, .inl (cI, 48, .inl (M_19 3))), (b 5, .inl (cI, 4, .inl (M_19 4))), (b 6, .inl (cI, 4, .inl (M_19 5))), (b 7, .inl (cI, 12, .inl (M_19 6))), (b 8, .inl (cI, 4, .inl (M_19 7))), (b 9, .inl (cI, 102, .inl (M_19 8))), (b 10, .inr (0, [.int (M_19 11 0), .int (M_19 11 1), .int (M_19 11 2), .int (M_19 11 3), .ref (b 11)])), (b 11, .inl (cI, 16, .inl (M_19 9)))]) (w1 := cPt a cC ((f_X2_takes P_19 59).2)) hP hD [0, 1] [2, 3, 4, 5, 6, 7, 8, 9, 10, 11, 12, 13] rfl rfl (by decide) (by decide) hk1 hFc hP1 hD1
            have hP : va_P (dC, dI) vwCl (cPt a cC ((f_X2_takes P_19 59).2) ++ cSt b cI M_19) H29 := hP.sub [12, 13, 0, 1, 2, 3, 4, 5, 6, 7, 8, 9, 10, 11] rfl
            have hD : va_D (va_A (cPt a cC P ++ cSt b cI M) s.heap.size) (cPt a cC ((f_X2_takes P_19 59).2) ++ cSt b cI M_19) := hD.sub [12, 13, 0, 1, 2, 3, 4, 5, 6, 7, 8, 9, 10, 11] (by decide) rfl
            obtain ⟨Pn32, ePn32⟩ : ∃ z : SR, z = (f_X2_takes P_19 59).2 := ⟨_, rfl⟩
            rw [sLet_eq, ← ePn32] at hR
            rw [← ePn32] at hP hD
            have hp33 : WFP Pn32 := by rw [ePn32]; exact hens30
            refine lv_if_eq (tgt := 44) hx hb dX2_readChannelItem_39 (by decide) (fun c34 => ?_) (fun c34 => ?_)
            · rw [if_pos c34] at hR
              exact hJ_44 x2_19 x3_19 x4_19 Pn32 M_19 ex4_19 hp33 hW_19 hc_19 hR _ _ _ hP hD hS (lv_sub hl [0, 1, 2, 3, 4] rfl)
            · rw [if_neg c34] at hR
              refine lv_iconst (v := 1) hx hb dX2_readChannelItem_42 (by decide) ?_
              exact W.zret (v := 1) hx hb hr rfl (fun t ht hWw => ⟨⟨1, (Pn32, M_19), rfl, ⟨hR.symm.trans eR, hp33, hW_19, (Or.inr rfl)⟩, by rw [ht]; exact hP, hD⟩, hS.F ht⟩) hS.2.2 dX2_readChannelItem_43
    exact hL_19 7 0 ((f_X2_readNumber P 11).1) 0 0 Pn5 M (by decide +kernel) (by decide) (by decide) hp6 hW (rd_vp hens4 c7) hR _ _ _ hP hD hS (lv_sub hl [3, 4, 2, 1, 0] rfl)
  · rw [if_pos c7] at hR
    refine lv_iconst (v := 0) hx hb dX2_readChannelItem_12 (by decide) ?_
    exact W.zret (v := 0) hx hb hr rfl (fun t ht hWw => ⟨⟨0, (Pn5, M), rfl, ⟨hR.symm.trans eR, hp6, hW, (Or.inl rfl)⟩, by rw [ht]; exact hP, hD⟩, hS.F ht⟩) hS.2.2 dX2_readChannelItem_13
abbrev rm_X2_readSend : Room := { frames := 2, cells := 0, slots := 0, locals := 45 }
def f_X2_readSend (P : SR) (M : SR) (p2 : Int32) : Int32 × SR × SR := sLet ((f_X2_readNumber P 11).2) (fun Pn5 : SR => (if ((f_X2_readNumber P 11).1) = (-1) then (0, Pn5, M) else sLet ((f_X2_takes Pn5 61).2) (fun Pn12 : SR => (if ((f_X2_takes Pn5 61).1) = 0 then (0, Pn12, M) else sLet ((f_X2_readNumber Pn12 100).2) (fun Pn19 : SR => (if ((f_X2_readNumber Pn12 100).1) = (-1) then (0, Pn19, M) else sLet (sU M 3 (f_X5_sendIndex p2 ((f_X2_readNumber P 11).1)).toNatClampNeg ((f_X2_readNumber Pn12 100).1)) (fun Mn25 : SR => (1, Pn19, Mn25))))))))
set_option maxHeartbeats 4000000 in
set_option maxRecDepth 100000 in
theorem c_X2_readSend (l : Launch) (dC : Nat → ClassId) (dI : Nat → Nat → Nat) (cI cC cS : ClassId) (a : Nat → Nat) (b : Nat → Nat) (P : SR) (M : SR) (sz : Nat) (p2 : Int32) (h2 : vp_in p2 4) (hp : WFP P) (hW : WF M) : Met l yX2_readSend wsX2_readSend rm_X2_readSend (PcG (dC, dI) (tyL cI cC cS) (cPt a cC P ++ cSt b cI M) sz [.ref (a 0), .ref (b 0), .int p2]) (va_Qi (fun (r : Int32) (u : SR × SR) => (r, u) = f_X2_readSend P M p2 ∧ (WFP u.1) ∧ (WF u.2) ∧ (r = 0 ∨ r = 1)) (fun u U => va_P (dC, dI) vwCl (cPt a cC u.1 ++ cSt b cI u.2) U.heap ∧ va_D (va_A (cPt a cC P ++ cSt b cI M) sz) (cPt a cC u.1 ++ cSt b cI u.2)) (va_A (cPt a cC P ++ cSt b cI M) sz)) 0 0 (va_A (cPt a cC P ++ cSt b cI M) sz) := by
  refine Met.ofW (cc := cX2_readSend) (maxL := 5) (ret := (some .boolean)) (by decide) rfl ?_
  intro p e s m args below meth c s₁ B hml hv
  obtain ⟨rfl, hsz, hP, hK, hD0, hN⟩ := hv
  have hx := B.exec
  have hb := B.bytes
  have hr := B.returns
  have hts := atoms_spec (ws := wsX2_readSend) B.pre
  have hown : s.vm.findClass RX2 = some m.cls := findClass_of_methodNamed B.named
  have hlocks := B.notSynchronized
  subst hsz
  have hD := hD0.self (sz := s.heap.size)
  have hA : ∀ q : Nat, s.heap.size ≤ q → (va_A (cPt a cC P ++ cSt b cI M) s.heap.size) q := fun q h => Or.inr h
  have hS : va_S (va_A (cPt a cC P ++ cSt b cI M) s.heap.size) s.heap s.heap [] := va_S.rf
  have hin4 : ∀ w ∈ wsX40, w ∈ wsX2_readSend := fun _ h => List.mem_cons_of_mem _ (List.mem_append_left _ (List.mem_append_right _ h))
  have hl := lv_entry [.ref (a 0), .ref (b 0), .int p2] (n := 5) (Nat.le_of_ble_eq_true rfl)
  rw [lg_entry_eq]
  generalize (lg_sl [.ref (a 0), .ref (b 0), .int p2] ++ List.replicate (5 - (lg_sl [.ref (a 0), .ref (b 0), .int p2]).length) Slot.unset).toArray = ls at hl ⊢
  have hl : lv_has ls 5 [(0, .ref (a 0)), (1, .ref (b 0)), (2, .int p2)] := hl
  obtain ⟨R0, eR⟩ : ∃ z, z = f_X2_readSend P M p2 := ⟨_, rfl⟩
  have hR := eR
  rw [f_X2_readSend] at hR
  refine lv_aload_n hx hb dX2_readSend_0 rfl (lv_at hl 0 rfl) ?_
  refine lv_bipush (v := 11) hx hb dX2_readSend_1 (by decide) ?_
  have hPc : va_P (dC, dI) vwCl (cPt a cC P) s.heap := hP.sub [0, 1] rfl
  have hDc : va_D (va_A (cPt a cC P ++ cSt b cI M) s.heap.size) (cPt a cC P) := hD.sub [0, 1] (by decide) rfl
  have hFc : ∀ q : Nat, va_A (cPt a cC P) s.heap.size q → (va_A (cPt a cC P ++ cSt b cI M) s.heap.size) q := va_free hD hS hA [0, 1] rfl
  refine va_calli (va_runV (As := [.int 11]) (rest := []) ⟨hx, hb, hml, hown, hts⟩ (c_X2_readNumber l dC dI cI cC cS a P s.heap.size 11 hp) (cwV 1 hts gX2_readSend_X2_readNumber rfl rfl rfl (by decide +kernel) ⟨Nat.le_of_ble_eq_true rfl, Nat.le_of_ble_eq_true rfl⟩) (pV (q0 := 0) hK hPc hDc hN rfl rfl) rfl rfl hl.1 rfl (lv_room (Nat.le_of_ble_eq_true rfl)) dX2_readSend_3 ⟨Nat.le_of_ble_eq_true rfl, Nat.le_of_ble_eq_true rfl⟩) hS (fun q _ h => hFc q h) hFc (fun r_1 u_1 t_1 H2 locs ht hvm hw hB hz1 hk1 hS => ?_)
  obtain ⟨hw, hens3, hens4⟩ := hw
  obtain ⟨hP1, hD1⟩ := hB
  rw [ht] at hP1
  have hw1 : r_1 = (f_X2_readNumber P 11).1 := congrArg Prod.fst hw
  have hw2 : u_1 = (f_X2_readNumber P 11).2 := congrArg Prod.snd hw
  clear hw
  subst hw1
  subst hw2
  obtain ⟨hP, hD⟩ := va_join (wc := cPt a cC P) (wr := [(b 0, .inr (4, [.ref (b 1), .ref (b 2), .ref (b 3), .int (M 10 0), .int (M 10 1), .int (M 10 2), .ref (b 4), .ref (b 5), .ref (b 6), .ref (b 7), .ref (b 8), .int (M 10 3), .int (M 10 4), .int (M 10 5), .int (M 10 6), .ref (b 9), .int (M 10 7), .ref (b 10)])), (b 1, .inl (cI, 12, .inl (M 0))), (b 2, .inl (cI, 16, .inl (M 1))), (b 3, .inl (cI, 12, .inl (M 2))), (b 4, .inl (cI, 48, .inl (M 3))), (b 5, .inl (cI, 4, .inl (M 4))), (b 6, .inl (cI, 4, .inl (M 5))), (b 7, .inl (cI, 12, .inl (M 6))), (b 8, .inl (cI, 4, .inl (M 7))), (b 9, .inl (cI, 102, .inl (M 8))), (b 10, .inr (0, [.int (M 11 0), .int (M 11 1), .int (M 11 2), .int (M 11 3), .ref (b 11)])), (b 11, .inl (cI, 16, .inl (M 9)))]) (w1 := cPt a cC ((f_X2_readNumber P 11).2)) hP hD [0, 1] [2, 3, 4, 5, 6, 7, 8, 9, 10, 11, 12, 13] rfl rfl (by decide) (by decide) hk1 hFc hP1 hD1
  have hP : va_P (dC, dI) vwCl (cPt a cC ((f_X2_readNumber P 11).2) ++ cSt b cI M) H2 := hP.sub [12, 13, 0, 1, 2, 3, 4, 5, 6, 7, 8, 9, 10, 11] rfl
  have hD : va_D (va_A (cPt a cC P ++ cSt b cI M) s.heap.size) (cPt a cC ((f_X2_readNumber P 11).2) ++ cSt b cI M) := hD.sub [12, 13, 0, 1, 2, 3, 4, 5, 6, 7, 8, 9, 10, 11] (by decide) rfl
  obtain ⟨Pn5, ePn5⟩ : ∃ z : SR, z = (f_X2_readNumber P 11).2 := ⟨_, rfl⟩
  rw [sLet_eq, ← ePn5] at hR
  rw [← ePn5] at hP hD
  have hp6 : WFP Pn5 := by rw [ePn5]; exact hens3
  refine lv_istore_n (lv' := [(3, .int ((f_X2_readNumber P 11).1)), (0, .ref (a 0)), (1, .ref (b 0)), (2, .int p2)]) hx hb dX2_readSend_6 rfl hl (by decide) rfl (fun ls hl => ?_)
  refine lv_iload_n hx hb dX2_readSend_7 rfl (lv_at hl 0 rfl) ?_
  refine lv_iconst (v := (-1)) hx hb dX2_readSend_8 (by decide) ?_
  refine lv_icmp_eq (tgt := 21) hx hb dX2_readSend_9 (by decide) (fun c7 => ?_) (fun c7 => ?_)
  · rw [if_pos c7] at hR
    refine lv_iconst (v := 0) hx hb dX2_readSend_21 (by decide) ?_
    exact W.zret (v := 0) hx hb hr rfl (fun t ht hWw => ⟨⟨0, (Pn5, M), rfl, ⟨hR.symm.trans eR, hp6, hW, (Or.inl rfl)⟩, by rw [ht]; exact hP, hD⟩, hS.F ht⟩) hS.2.2 dX2_readSend_22
  · rw [if_neg c7] at hR
    refine lv_aload_n hx hb dX2_readSend_12 rfl (lv_at hl 1 rfl) ?_
    refine lv_bipush (v := 61) hx hb dX2_readSend_13 (by decide) ?_
    have hPc : va_P (dC, dI) vwCl (cPt a cC Pn5) H2 := hP.sub [0, 1] rfl
    have hDc : va_D (va_A (cPt a cC P ++ cSt b cI M) s.heap.size) (cPt a cC Pn5) := hD.sub [0, 1] (by decide) rfl
    have hFc : ∀ q : Nat, va_A (cPt a cC Pn5) H2.size q → (va_A (cPt a cC P ++ cSt b cI M) s.heap.size) q := va_free hD hS hA [0, 1] rfl
    refine va_calli (va_runV (As := [.int 61]) (rest := []) ⟨hx, hb, hml, hown, hts⟩ (c_X2_takes l dC dI cI cC cS a Pn5 H2.size 61 hp6) (cwV 1 hts gX2_readSend_X2_takes rfl rfl rfl (by decide +kernel) ⟨Nat.le_of_ble_eq_true rfl, Nat.le_of_ble_eq_true rfl⟩) (pV (q0 := 0) hK hPc hDc hN rfl rfl) rfl rfl hl.1 rfl (lv_room (Nat.le_of_ble_eq_true rfl)) dX2_readSend_15 ⟨Nat.le_of_ble_eq_true rfl, Nat.le_of_ble_eq_true rfl⟩) hS (fun q _ h => hFc q h) hFc (fun r_8 u_8 t_8 H9 locs ht hvm hw hB hz1 hk1 hS => ?_)
    obtain ⟨hw, hens10, hens11⟩ := hw
    obtain ⟨hP1, hD1⟩ := hB
    rw [ht] at hP1
    have hw1 : r_8 = (f_X2_takes Pn5 61).1 := congrArg Prod.fst hw
    have hw2 : u_8 = (f_X2_takes Pn5 61).2 := congrArg Prod.snd hw
    clear hw
    subst hw1
    subst hw2
    obtain ⟨hP, hD⟩ := va_join (wc := cPt a cC Pn5) (wr := [(b 0, .inr (4, [.ref (b 1), .ref (b 2), .ref (b 3), .int (M 10 0), .int (M 10 1), .int (M 10 2), .ref (b 4), .ref (b 5), .ref (b 6), .ref (b 7), .ref (b 8), .int (M 10 3), .int (M 10 4), .int (M 10 5), .int (M 10 6), .ref (b 9), .int (M 10 7), .ref (b 10)])), (b 1, .inl (cI, 12, .inl (M 0))), (b 2, .inl (cI, 16, .inl (M 1))), (b 3, .inl (cI, 12, .inl (M 2))), (b 4, .inl (cI, 48, .inl (M 3))), (b 5, .inl (cI, 4, .inl (M 4))), (b 6, .inl (cI, 4, .inl (M 5))), (b 7, .inl (cI, 12, .inl (M 6))), (b 8, .inl (cI, 4, .inl (M 7))), (b 9, .inl (cI, 102, .inl (M 8))), (b 10, .inr (0, [.int (M 11 0), .int (M 11 1), .int (M 11 2), .int (M 11 3), .ref (b 11)])), (b 11, .inl (cI, 16, .inl (M 9)))]) (w1 := cPt a cC ((f_X2_takes Pn5 61).2)) hP hD [0, 1] [2, 3, 4, 5, 6, 7, 8, 9, 10, 11, 12, 13] rfl rfl (by decide) (by decide) hk1 hFc hP1 hD1
    have hP : va_P (dC, dI) vwCl (cPt a cC ((f_X2_takes Pn5 61).2) ++ cSt b cI M) H9 := hP.sub [12, 13, 0, 1, 2, 3, 4, 5, 6, 7, 8, 9, 10, 11] rfl
    have hD : va_D (va_A (cPt a cC P ++ cSt b cI M) s.heap.size) (cPt a cC ((f_X2_takes Pn5 61).2) ++ cSt b cI M) := hD.sub [12, 13, 0, 1, 2, 3, 4, 5, 6, 7, 8, 9, 10, 11] (by decide) rfl
    obtain ⟨Pn12, ePn12⟩ : ∃ z : SR, z = (f_X2_takes Pn5 61).2 := ⟨_, rfl⟩
    rw [sLet_eq, ← ePn12] at hR
    rw [← ePn12] at hP hD
    have hp13 : WFP Pn12 := by rw [ePn12]; exact hens10
    refine lv_if_ne (tgt := 23) hx hb dX2_readSend_18 (by decide) (fun c14 => ?_) (fun c14 => ?_)
    · rw [if_neg c14] at hR
      refine lv_aload_n hx hb dX2_readSend_23 rfl (lv_at hl 1 rfl) ?_
      refine lv_bipush (v := 100) hx hb dX2_readSend_24 (by decide) ?_
      have hPc : va_P (dC, dI) vwCl (cPt a cC Pn12) H9 := hP.sub [0, 1] rfl
      have hDc : va_D (va_A (cPt a cC P ++ cSt b cI M) s.heap.size) (cPt a cC Pn12) := hD.sub [0, 1] (by decide) rfl
      have hFc : ∀ q : Nat, va_A (cPt a cC Pn12) H9.size q → (va_A (cPt a cC P ++ cSt b cI M) s.heap.size) q := va_free hD hS hA [0, 1] rfl
      refine va_calli (va_runV (As := [.int 100]) (rest := []) ⟨hx, hb, hml, hown, hts⟩ (c_X2_readNumber l dC dI cI cC cS a Pn12 H9.size 100 hp13) (cwV 1 hts gX2_readSend_X2_readNumber rfl rfl rfl (by decide +kernel) ⟨Nat.le_of_ble_eq_true rfl, Nat.le_of_ble_eq_true rfl⟩) (pV (q0 := 0) hK hPc hDc hN rfl rfl) rfl rfl hl.1 rfl (lv_room (Nat.le_of_ble_eq_true rfl)) dX2_readSend_26 ⟨Nat.le_of_ble_eq_true rfl, Nat.le_of_ble_eq_true rfl⟩) hS (fun q _ h => hFc q h) hFc (fun r_15 u_15 t_15 H16 locs ht hvm hw hB hz1 hk1 hS => ?_)
      obtain ⟨hw, hens17, hens18⟩ := hw
      obtain ⟨hP1, hD1⟩ := hB
      rw [ht] at hP1
      have hw1 : r_15 = (f_X2_readNumber Pn12 100).1 := congrArg Prod.fst hw
      have hw2 : u_15 = (f_X2_readNumber Pn12 100).2 := congrArg Prod.snd hw
      clear hw
      subst hw1
      subst hw2
      obtain ⟨hP, hD⟩ := va_join (wc := cPt a cC Pn12) (wr := [(b 0, .inr (4, [.ref (b 1), .ref (b 2), .ref (b 3), .int (M 10 0), .int (M 10 1), .int (M 10 2), .ref (b 4), .ref (b 5), .ref (b 6), .ref (b 7), .ref (b 8), .int (M 10 3), .int (M 10 4), .int (M 10 5), .int (M 10 6), .ref (b 9), .int (M 10 7), .ref (b 10)])), (b 1, .inl (cI, 12, .inl (M 0))), (b 2, .inl (cI, 16, .inl (M 1))), (b 3, .inl (cI, 12, .inl (M 2))), (b 4, .inl (cI, 48, .inl (M 3))), (b 5, .inl (cI, 4, .inl (M 4))), (b 6, .inl (cI, 4, .inl (M 5))), (b 7, .inl (cI, 12, .inl (M 6))), (b 8, .inl (cI, 4, .inl (M 7))), (b 9, .inl (cI, 102, .inl (M 8))), (b 10, .inr (0, [.int (M 11 0), .int (M 11 1), .int (M 11 2), .int (M 11 3), .ref (b 11)])), (b 11, .inl (cI, 16, .inl (M 9)))]) (w1 := cPt a cC ((f_X2_readNumber Pn12 100).2)) hP hD [0, 1] [2, 3, 4, 5, 6, 7, 8, 9, 10, 11, 12, 13] rfl rfl (by decide) (by decide) hk1 hFc hP1 hD1
      have hP : va_P (dC, dI) vwCl (cPt a cC ((f_X2_readNumber Pn12 100).2) ++ cSt b cI M) H16 := hP.sub [12, 13, 0, 1, 2, 3, 4, 5, 6, 7, 8, 9, 10, 11] rfl
      have hD : va_D (va_A (cPt a cC P ++ cSt b cI M) s.heap.size) (cPt a cC ((f_X2_readNumber Pn12 100).2) ++ cSt b cI M) := hD.sub [12, 13, 0, 1, 2, 3, 4, 5, 6, 7, 8, 9, 10, 11] (by decide) rfl
      obtain ⟨Pn19, ePn19⟩ : ∃ z : SR, z = (f_X2_readNumber Pn12 100).2 := ⟨_, rfl⟩
      rw [sLet_eq, ← ePn19] at hR
      rw [← ePn19] at hP hD
      have hp20 : WFP Pn19 := by rw [ePn19]; exact hens17
      refine lv_istore (lv' := [(4, .int ((f_X2_readNumber Pn12 100).1)), (3, .int ((f_X2_readNumber P 11).1)), (0, .ref (a 0)), (1, .ref (b 0)), (2, .int p2)]) hx hb dX2_readSend_29 hl (by decide) rfl (fun ls hl => ?_)
      refine lv_iload hx hb dX2_readSend_31 (lv_at hl 0 rfl) ?_
      refine lv_iconst (v := (-1)) hx hb dX2_readSend_33 (by decide) ?_
      refine lv_icmp_ne (tgt := 39) hx hb dX2_readSend_34 (by decide) (fun c21 => ?_) (fun c21 => ?_)
      · rw [if_neg c21] at hR
        refine lv_aload_n hx hb dX2_readSend_39 rfl (lv_at hl 3 rfl) ?_
        refine va_getN (D := (dC, dI)) (ci := 4) (v := .ref (b 4)) (C := RX4) (T := TX4) (N := 18) hx hb hts hin4 hown hK hP 2 rfl rfl 6 (by decide) (va_Nw.use rfl (hN.at 21 rfl)) (fun _ h9 => h9) rfl dX2_readSend_40 ?_
        refine lv_iload_n hx hb dX2_readSend_43 rfl (lv_at hl 4 rfl) ?_
        refine lv_iload_n hx hb dX2_readSend_44 rfl (lv_at hl 1 rfl) ?_
        have hFc : ∀ q : Nat, va_A [] H16.size q → (va_A (cPt a cC P ++ cSt b cI M) s.heap.size) q := roF hS hA
        refine va_calli (va_runSN (As := [.int p2, .int ((f_X2_readNumber P 11).1)]) (rest := [.ref (b 4)]) ⟨hx, hb, hml, hown, hts⟩ (c_X5_sendIndex l dC dI cI cC cS H16.size p2 ((f_X2_readNumber P 11).1)) ⟨va_cnB 2 hts gX2_readSend_X5_sendIndex_n84 rfl rfl rfl (hN.at 8 rfl) (hts (.initialized RX5) (List.mem_of_getElem? (i := 18) rfl)) (by decide +kernel) ⟨Nat.le_of_ble_eq_true rfl, Nat.le_of_ble_eq_true rfl⟩, (hts (.static yX5_sendIndex) (List.mem_of_getElem? (i := 24) rfl)), trivial⟩ (pS hK (va_P_nil) (va_D_nil) hN) rfl rfl hl.1 rfl (lv_room (Nat.le_of_ble_eq_true rfl)) dX2_readSend_45 ⟨Nat.le_of_ble_eq_true rfl, Nat.le_of_ble_eq_true rfl⟩) hS (fun q _ h => hFc q h) hFc (fun r_22 u_22 t_22 H23 locs ht hvm hw hB hz1 hk1 hS => ?_)
        subst hw
        have hP := ro_keep hP hk1
        refine lv_iload hx hb dX2_readSend_48 (lv_at hl 0 rfl) ?_
        refine va_iast (f := M 3) hx hb hK hP hD hS 6 0 rfl rfl (si_in h2 (rd_vp hens4 c7)) dX2_readSend_50 (fun H24 locs hP hD hS => ?_)
        have hP : va_P (dC, dI) vwCl (cPt a cC Pn19 ++ cSt b cI (sU M 3 (f_X5_sendIndex p2 ((f_X2_readNumber P 11).1)).toNatClampNeg ((f_X2_readNumber Pn12 100).1))) H24 := hP
        have hD : va_D (va_A (cPt a cC P ++ cSt b cI M) s.heap.size) (cPt a cC Pn19 ++ cSt b cI (sU M 3 (f_X5_sendIndex p2 ((f_X2_readNumber P 11).1)).toNatClampNeg ((f_X2_readNumber Pn12 100).1))) := hD
        obtain ⟨Mn25, eMn25⟩ : ∃ z : SR, z = sU M 3 (f_X5_sendIndex p2 ((f_X2_readNumber P 11).1)).toNatClampNeg ((f_X2_readNumber Pn12 100).1) := ⟨_, rfl⟩
        rw [sLet_eq, ← eMn25] at hR
        rw [← eMn25] at hP hD
        have hW26 : WF Mn25 := (by rw [eMn25]; exact hW)
        refine lv_iconst (v := 1) hx hb dX2_readSend_51 (by decide) ?_
        exact W.zret (v := 1) hx hb hr rfl (fun t ht hWw => ⟨⟨1, (Pn19, Mn25), rfl, ⟨hR.symm.trans eR, hp20, hW26, (Or.inr rfl)⟩, by rw [ht]; exact hP, hD⟩, hS.F ht⟩) hS.2.2 dX2_readSend_52
      · rw [if_pos c21] at hR
        refine lv_iconst (v := 0) hx hb dX2_readSend_37 (by decide) ?_
        exact W.zret (v := 0) hx hb hr rfl (fun t ht hWw => ⟨⟨0, (Pn19, M), rfl, ⟨hR.symm.trans eR, hp20, hW, (Or.inl rfl)⟩, by rw [ht]; exact hP, hD⟩, hS.F ht⟩) hS.2.2 dX2_readSend_38
    · rw [if_pos c14] at hR
      refine lv_iconst (v := 0) hx hb dX2_readSend_21 (by decide) ?_
      exact W.zret (v := 0) hx hb hr rfl (fun t ht hWw => ⟨⟨0, (Pn12, M), rfl, ⟨hR.symm.trans eR, hp13, hW, (Or.inl rfl)⟩, by rw [ht]; exact hP, hD⟩, hS.F ht⟩) hS.2.2 dX2_readSend_22
abbrev rm_X2_readFeedItem : Room := { frames := 3, cells := 0, slots := 0, locals := 69 }
def f_X2_readFeedItem_p35   : Nat → Int32 → Int32 → SR → SR → (Int32 × SR × SR)
  | 0, _, _, P_35, M_35 => (0, P_35, M_35)
  | n_35 + 1, x2_35, x3_35, P_35, M_35 => (if 140 ≤ x3_35 then (0, P_35, M_35) else sLet ((f_X2_readSend P_35 M_35 x2_35).2.1) (fun Pn28 : SR => sLet ((f_X2_readSend P_35 M_35 x2_35).2.2) (fun Mn30 : SR => (if ((f_X2_readSend P_35 M_35 x2_35).1) = 0 then (0, Pn28, Mn30) else sLet ((f_X2_takes Pn28 59).2) (fun Pn37 : SR => (if ((f_X2_takes Pn28 59).1) = 0 then sLet ((f_X2_takes Pn37 44).2) (fun Pn44 : SR => (if ((f_X2_takes Pn37 44).1) = 0 then (0, Pn44, Mn30) else (f_X2_readFeedItem_p35 n_35) x2_35 (x3_35 + 1) Pn44 Mn30)) else (1, Pn37, Mn30)))))))
def f_X2_readFeedItem (P : SR) (M : SR)  : Int32 × SR × SR := sLet ((f_X2_readNumber P 3).2) (fun Pn5 : SR => (if ((f_X2_readNumber P 3).1) = (-1) then (0, Pn5, M) else sLet ((f_X2_takes Pn5 58).2) (fun Pn12 : SR => (if ((f_X2_takes Pn5 58).1) = 0 then (0, Pn12, M) else sLet ((f_X2_takes Pn12 59).2) (fun Pn19 : SR => (if ((f_X2_takes Pn12 59).1) = 0 then f_X2_readFeedItem_p35 141 ((f_X2_readNumber P 3).1) 0 Pn19 M else (1, Pn19, M)))))))
set_option maxHeartbeats 4000000 in
set_option maxRecDepth 100000 in
theorem c_X2_readFeedItem (l : Launch) (dC : Nat → ClassId) (dI : Nat → Nat → Nat) (cI cC cS : ClassId) (a : Nat → Nat) (b : Nat → Nat) (P : SR) (M : SR) (sz : Nat)  (hp : WFP P) (hW : WF M) : Met l yX2_readFeedItem wsX2_readFeedItem rm_X2_readFeedItem (PcG (dC, dI) (tyL cI cC cS) (cPt a cC P ++ cSt b cI M) sz [.ref (a 0), .ref (b 0)]) (va_Qi (fun (r : Int32) (u : SR × SR) => (r, u) = f_X2_readFeedItem P M ∧ (WFP u.1) ∧ (WF u.2) ∧ (r = 0 ∨ r = 1)) (fun u U => va_P (dC, dI) vwCl (cPt a cC u.1 ++ cSt b cI u.2) U.heap ∧ va_D (va_A (cPt a cC P ++ cSt b cI M) sz) (cPt a cC u.1 ++ cSt b cI u.2)) (va_A (cPt a cC P ++ cSt b cI M) sz)) 0 0 (va_A (cPt a cC P ++ cSt b cI M) sz) := by
  refine Met.ofW (cc := cX2_readFeedItem) (maxL := 4) (ret := (some .boolean)) (by decide) rfl ?_
  intro p e s m args below meth c s₁ B hml hv
  obtain ⟨rfl, hsz, hP, hK, hD0, hN⟩ := hv
  have hx := B.exec
  have hb := B.bytes
  have hr := B.returns
  have hts := atoms_spec (ws := wsX2_readFeedItem) B.pre
  have hown : s.vm.findClass RX2 = some m.cls := findClass_of_methodNamed B.named
  have hlocks := B.notSynchronized
  subst hsz
  have hD := hD0.self (sz := s.heap.size)
  have hA : ∀ q : Nat, s.heap.size ≤ q → (va_A (cPt a cC P ++ cSt b cI M) s.heap.size) q := fun q h => Or.inr h
  have hS : va_S (va_A (cPt a cC P ++ cSt b cI M) s.heap.size) s.heap s.heap [] := va_S.rf
  have hl := lv_entry [.ref (a 0), .ref (b 0)] (n := 4) (Nat.le_of_ble_eq_true rfl)
  rw [lg_entry_eq]
  generalize (lg_sl [.ref (a 0), .ref (b 0)] ++ List.replicate (4 - (lg_sl [.ref (a 0), .ref (b 0)]).length) Slot.unset).toArray = ls at hl ⊢
  have hl : lv_has ls 4 [(0, .ref (a 0)), (1, .ref (b 0))] := hl
  obtain ⟨R0, eR⟩ : ∃ z, z = f_X2_readFeedItem P M := ⟨_, rfl⟩
  have hR := eR
  rw [f_X2_readFeedItem] at hR
  refine lv_aload_n hx hb dX2_readFeedItem_0 rfl (lv_at hl 0 rfl) ?_
  refine lv_iconst (v := 3) hx hb dX2_readFeedItem_1 (by decide) ?_
  have hPc : va_P (dC, dI) vwCl (cPt a cC P) s.heap := hP.sub [0, 1] rfl
  have hDc : va_D (va_A (cPt a cC P ++ cSt b cI M) s.heap.size) (cPt a cC P) := hD.sub [0, 1] (by decide) rfl
  have hFc : ∀ q : Nat, va_A (cPt a cC P) s.heap.size q → (va_A (cPt a cC P ++ cSt b cI M) s.heap.size) q := va_free hD hS hA [0, 1] rfl
  refine va_calli (va_runV (As := [.int 3]) (rest := []) ⟨hx, hb, hml, hown, hts⟩ (c_X2_readNumber l dC dI cI cC cS a P s.heap.size 3 hp) (cwV 1 hts gX2_readFeedItem_X2_readNumber rfl rfl rfl (by decide +kernel) ⟨Nat.le_of_ble_eq_true rfl, Nat.le_of_ble_eq_true rfl⟩) (pV (q0 := 0) hK hPc hDc hN rfl rfl) rfl rfl hl.1 rfl (lv_room (Nat.le_of_ble_eq_true rfl)) dX2_readFeedItem_2 ⟨Nat.le_of_ble_eq_true rfl, Nat.le_of_ble_eq_true rfl⟩) hS (fun q _ h => hFc q h) hFc (fun r_1 u_1 t_1 H2 locs ht hvm hw hB hz1 hk1 hS => ?_)
  obtain ⟨hw, hens3, hens4⟩ := hw
  obtain ⟨hP1, hD1⟩ := hB
  rw [ht] at hP1
  have hw1 : r_1 = (f_X2_readNumber P 3).1 := congrArg Prod.fst hw
  have hw2 : u_1 = (f_X2_readNumber P 3).2 := congrArg Prod.snd hw
  clear hw
  subst hw1
  subst hw2
  obtain ⟨hP, hD⟩ := va_join (wc := cPt a cC P) (wr := [(b 0, .inr (4, [.ref (b 1), .ref (b 2), .ref (b 3), .int (M 10 0), .int (M 10 1), .int (M 10 2), .ref (b 4), .ref (b 5), .ref (b 6), .ref (b 7), .ref (b 8), .int (M 10 3), .int (M 10 4), .int (M 10 5), .int (M 10 6), .ref (b 9), .int (M 10 7), .ref (b 10)])), (b 1, .inl (cI, 12, .inl (M 0))), (b 2, .inl (cI, 16, .inl (M 1))), (b 3, .inl (cI, 12, .inl (M 2))), (b 4, .inl (cI, 48, .inl (M 3))), (b 5, .inl (cI, 4, .inl (M 4))), (b 6, .inl (cI, 4, .inl (M 5))), (b 7, .inl (cI, 12, .inl (M 6))), (b 8, .inl (cI, 4, .inl (M 7))), (b 9, .inl (cI, 102, .inl (M 8))), (b 10, .inr (0, [.int (M 11 0), .int (M 11 1), .int (M 11 2), .int (M 11 3), .ref (b 11)])), (b 11, .inl (cI, 16, .inl (M 9)))]) (w1 := cPt a cC ((f_X2_readNumber P 3).2)) hP hD [0, 1] [2, 3, 4, 5, 6, 7, 8, 9, 10, 11, 12, 13] rfl rfl (by decide) (by decide) hk1 hFc hP1 hD1
  have hP : va_P (dC, dI) vwCl (cPt a cC ((f_X2_readNumber P 3).2) ++ cSt b cI M) H2 := hP.sub [12, 13, 0, 1, 2, 3, 4, 5, 6, 7, 8, 9, 10, 11] rfl
  have hD : va_D (va_A (cPt a cC P ++ cSt b cI M) s.heap.size) (cPt a cC ((f_X2_readNumber P 3).2) ++ cSt b cI M) := hD.sub [12, 13, 0, 1, 2, 3, 4, 5, 6, 7, 8, 9, 10, 11] (by decide) rfl
  obtain ⟨Pn5, ePn5⟩ : ∃ z : SR, z = (f_X2_readNumber P 3).2 := ⟨_, rfl⟩
  rw [sLet_eq, ← ePn5] at hR
  rw [← ePn5] at hP hD
  have hp6 : WFP Pn5 := by rw [ePn5]; exact hens3
  refine lv_istore_n (lv' := [(2, .int ((f_X2_readNumber P 3).1)), (0, .ref (a 0)), (1, .ref (b 0))]) hx hb dX2_readFeedItem_5 rfl hl (by decide) rfl (fun ls hl => ?_)
  refine lv_iload_n hx hb dX2_readFeedItem_6 rfl (lv_at hl 0 rfl) ?_
  refine lv_iconst (v := (-1)) hx hb dX2_readFeedItem_7 (by decide) ?_
  refine lv_icmp_eq (tgt := 20) hx hb dX2_readFeedItem_8 (by decide) (fun c7 => ?_) (fun c7 => ?_)
  · rw [if_pos c7] at hR
    refine lv_iconst (v := 0) hx hb dX2_readFeedItem_20 (by decide) ?_
    exact W.zret (v := 0) hx hb hr rfl (fun t ht hWw => ⟨⟨0, (Pn5, M), rfl, ⟨hR.symm.trans eR, hp6, hW, (Or.inl rfl)⟩, by rw [ht]; exact hP, hD⟩, hS.F ht⟩) hS.2.2 dX2_readFeedItem_21
  · rw [if_neg c7] at hR
    refine lv_aload_n hx hb dX2_readFeedItem_11 rfl (lv_at hl 1 rfl) ?_
    refine lv_bipush (v := 58) hx hb dX2_readFeedItem_12 (by decide) ?_
    have hPc : va_P (dC, dI) vwCl (cPt a cC Pn5) H2 := hP.sub [0, 1] rfl
    have hDc : va_D (va_A (cPt a cC P ++ cSt b cI M) s.heap.size) (cPt a cC Pn5) := hD.sub [0, 1] (by decide) rfl
    have hFc : ∀ q : Nat, va_A (cPt a cC Pn5) H2.size q → (va_A (cPt a cC P ++ cSt b cI M) s.heap.size) q := va_free hD hS hA [0, 1] rfl
    refine va_calli (va_runV (As := [.int 58]) (rest := []) ⟨hx, hb, hml, hown, hts⟩ (c_X2_takes l dC dI cI cC cS a Pn5 H2.size 58 hp6) (cwV 1 hts gX2_readFeedItem_X2_takes rfl rfl rfl (by decide +kernel) ⟨Nat.le_of_ble_eq_true rfl, Nat.le_of_ble_eq_true rfl⟩) (pV (q0 := 0) hK hPc hDc hN rfl rfl) rfl rfl hl.1 rfl (lv_room (Nat.le_of_ble_eq_true rfl)) dX2_readFeedItem_14 ⟨Nat.le_of_ble_eq_true rfl, Nat.le_of_ble_eq_true rfl⟩) hS (fun q _ h => hFc q h) hFc (fun r_8 u_8 t_8 H9 locs ht hvm hw hB hz1 hk1 hS => ?_)
    obtain ⟨hw, hens10, hens11⟩ := hw
    obtain ⟨hP1, hD1⟩ := hB
    rw [ht] at hP1
    have hw1 : r_8 = (f_X2_takes Pn5 58).1 := congrArg Prod.fst hw
    have hw2 : u_8 = (f_X2_takes Pn5 58).2 := congrArg Prod.snd hw
    clear hw
    subst hw1
    subst hw2
    obtain ⟨hP, hD⟩ := va_join (wc := cPt a cC Pn5) (wr := [(b 0, .inr (4, [.ref (b 1), .ref (b 2), .ref (b 3), .int (M 10 0), .int (M 10 1), .int (M 10 2), .ref (b 4), .ref (b 5), .ref (b 6), .ref (b 7), .ref (b 8), .int (M 10 3), .int (M 10 4), .int (M 10 5), .int (M 10 6), .ref (b 9), .int (M 10 7), .ref (b 10)])), (b 1, .inl (cI, 12, .inl (M 0))), (b 2, .inl (cI, 16, .inl (M 1))), (b 3, .inl (cI, 12, .inl (M 2))), (b 4, .inl (cI, 48, .inl (M 3))), (b 5, .inl (cI, 4, .inl (M 4))), (b 6, .inl (cI, 4, .inl (M 5))), (b 7, .inl (cI, 12, .inl (M 6))), (b 8, .inl (cI, 4, .inl (M 7))), (b 9, .inl (cI, 102, .inl (M 8))), (b 10, .inr (0, [.int (M 11 0), .int (M 11 1), .int (M 11 2), .int (M 11 3), .ref (b 11)])), (b 11, .inl (cI, 16, .inl (M 9)))]) (w1 := cPt a cC ((f_X2_takes Pn5 58).2)) hP hD [0, 1] [2, 3, 4, 5, 6, 7, 8, 9, 10, 11, 12, 13] rfl rfl (by decide) (by decide) hk1 hFc hP1 hD1
    have hP : va_P (dC, dI) vwCl (cPt a cC ((f_X2_takes Pn5 58).2) ++ cSt b cI M) H9 := hP.sub [12, 13, 0, 1, 2, 3, 4, 5, 6, 7, 8, 9, 10, 11] rfl
    have hD : va_D (va_A (cPt a cC P ++ cSt b cI M) s.heap.size) (cPt a cC ((f_X2_takes Pn5 58).2) ++ cSt b cI M) := hD.sub [12, 13, 0, 1, 2, 3, 4, 5, 6, 7, 8, 9, 10, 11] (by decide) rfl
    obtain ⟨Pn12, ePn12⟩ : ∃ z : SR, z = (f_X2_takes Pn5 58).2 := ⟨_, rfl⟩
    rw [sLet_eq, ← ePn12] at hR
    rw [← ePn12] at hP hD
    have hp13 : WFP Pn12 := by rw [ePn12]; exact hens10
    refine lv_if_ne (tgt := 22) hx hb dX2_readFeedItem_17 (by decide) (fun c14 => ?_) (fun c14 => ?_)
    · rw [if_neg c14] at hR
      refine lv_aload_n hx hb dX2_readFeedItem_22 rfl (lv_at hl 1 rfl) ?_
      refine lv_bipush (v := 59) hx hb dX2_readFeedItem_23 (by decide) ?_
      have hPc : va_P (dC, dI) vwCl (cPt a cC Pn12) H9 := hP.sub [0, 1] rfl
      have hDc : va_D (va_A (cPt a cC P ++ cSt b cI M) s.heap.size) (cPt a cC Pn12) := hD.sub [0, 1] (by decide) rfl
      have hFc : ∀ q : Nat, va_A (cPt a cC Pn12) H9.size q → (va_A (cPt a cC P ++ cSt b cI M) s.heap.size) q := va_free hD hS hA [0, 1] rfl
      refine va_calli (va_runV (As := [.int 59]) (rest := []) ⟨hx, hb, hml, hown, hts⟩ (c_X2_takes l dC dI cI cC cS a Pn12 H9.size 59 hp13) (cwV 1 hts gX2_readFeedItem_X2_takes rfl rfl rfl (by decide +kernel) ⟨Nat.le_of_ble_eq_true rfl, Nat.le_of_ble_eq_true rfl⟩) (pV (q0 := 0) hK hPc hDc hN rfl rfl) rfl rfl hl.1 rfl (lv_room (Nat.le_of_ble_eq_true rfl)) dX2_readFeedItem_25 ⟨Nat.le_of_ble_eq_true rfl, Nat.le_of_ble_eq_true rfl⟩) hS (fun q _ h => hFc q h) hFc (fun r_15 u_15 t_15 H16 locs ht hvm hw hB hz1 hk1 hS => ?_)
      obtain ⟨hw, hens17, hens18⟩ := hw
      obtain ⟨hP1, hD1⟩ := hB
      rw [ht] at hP1
      have hw1 : r_15 = (f_X2_takes Pn12 59).1 := congrArg Prod.fst hw
      have hw2 : u_15 = (f_X2_takes Pn12 59).2 := congrArg Prod.snd hw
      clear hw
      subst hw1
      subst hw2
      obtain ⟨hP, hD⟩ := va_join (wc := cPt a cC Pn12) (wr := [(b 0, .inr (4, [.ref (b 1), .ref (b 2), .ref (b 3), .int (M 10 0), .int (M 10 1), .int (M 10 2), .ref (b 4), .ref (b 5), .ref (b 6), .ref (b 7), .ref (b 8), .int (M 10 3), .int (M 10 4), .int (M 10 5), .int (M 10 6), .ref (b 9), .int (M 10 7), .ref (b 10)])), (b 1, .inl (cI, 12, .inl (M 0))), (b 2, .inl (cI, 16, .inl (M 1))), (b 3, .inl (cI, 12, .inl (M 2))), (b 4, .inl (cI, 48, .inl (M 3))), (b 5, .inl (cI, 4, .inl (M 4))), (b 6, .inl (cI, 4, .inl (M 5))), (b 7, .inl (cI, 12, .inl (M 6))), (b 8, .inl (cI, 4, .inl (M 7))), (b 9, .inl (cI, 102, .inl (M 8))), (b 10, .inr (0, [.int (M 11 0), .int (M 11 1), .int (M 11 2), .int (M 11 3), .ref (b 11)])), (b 11, .inl (cI, 16, .inl (M 9)))]) (w1 := cPt a cC ((f_X2_takes Pn12 59).2)) hP hD [0, 1] [2, 3, 4, 5, 6, 7, 8, 9, 10, 11, 12, 13] rfl rfl (by decide) (by decide) hk1 hFc hP1 hD1
      have hP : va_P (dC, dI) vwCl (cPt a cC ((f_X2_takes Pn12 59).2) ++ cSt b cI M) H16 := hP.sub [12, 13, 0, 1, 2, 3, 4, 5, 6, 7, 8, 9, 10, 11] rfl
      have hD : va_D (va_A (cPt a cC P ++ cSt b cI M) s.heap.size) (cPt a cC ((f_X2_takes Pn12 59).2) ++ cSt b cI M) := hD.sub [12, 13, 0, 1, 2, 3, 4, 5, 6, 7, 8, 9, 10, 11] (by decide) rfl
      obtain ⟨Pn19, ePn19⟩ : ∃ z : SR, z = (f_X2_takes Pn12 59).2 := ⟨_, rfl⟩
      rw [sLet_eq, ← ePn19] at hR
      rw [← ePn19] at hP hD
      have hp20 : WFP Pn19 := by rw [ePn19]; exact hens17
      refine lv_if_eq (tgt := 33) hx hb dX2_readFeedItem_28 (by decide) (fun c21 => ?_) (fun c21 => ?_)
      · rw [if_pos c21] at hR
        refine lv_iconst (v := 0) hx hb dX2_readFeedItem_33 (by decide) ?_
        refine lv_istore_n (lv' := [(3, .int 0), (2, .int ((f_X2_readNumber P 3).1)), (0, .ref (a 0)), (1, .ref (b 0))]) hx hb dX2_readFeedItem_34 rfl hl (by decide) rfl (fun ls hl => ?_)
        have hL_35 : ∀ n_35 : Nat, ∀ (j_35 : Nat), ∀ (x2_35 : Int32) (x3_35 : Int32) (P_35 : SR) (M_35 : SR), x3_35 = nI j_35 → j_35 ≤ 140 → 140 < j_35 + n_35 → WFP P_35 → WF M_35 → vp_in x2_35 4 → R0 = f_X2_readFeedItem_p35 n_35 x2_35 x3_35 P_35 M_35 → ∀ (H : Heap) (locs : List Loc) (ls : Array Slot), va_P (dC, dI) vwCl (cPt a cC P_35 ++ cSt b cI M_35) H → va_D (va_A (cPt a cC P ++ cSt b cI M) s.heap.size) (cPt a cC P_35 ++ cSt b cI M_35) → va_S (va_A (cPt a cC P ++ cSt b cI M) s.heap.size) s.heap H locs → lv_has ls 4 [(0, .ref (a 0)), (1, .ref (b 0)), (2, .int x2_35), (3, .int x3_35)] → W p l e (headSpec wsX2_readFeedItem rm_X2_readFeedItem).room s m ([.ref (a 0), .ref (b 0)] : List Value).toArray below meth c H locs 0 0 (MQ below (va_Qi (fun (r : Int32) (u : SR × SR) => (r, u) = f_X2_readFeedItem P M ∧ (WFP u.1) ∧ (WF u.2) ∧ (r = 0 ∨ r = 1)) (fun u U => va_P (dC, dI) vwCl (cPt a cC u.1 ++ cSt b cI u.2) U.heap ∧ va_D (va_A (cPt a cC P ++ cSt b cI M) s.heap.size) (cPt a cC u.1 ++ cSt b cI u.2)) (va_A (cPt a cC P ++ cSt b cI M) s.heap.size)) ([.ref (a 0), .ref (b 0)] : List Value).toArray s 0 0 (va_A (cPt a cC P ++ cSt b cI M) s.heap.size)) (F0 m 35 ls []) := by
          intro n_35
          induction n_35 with
          | zero =>
            intro j_35 x2_35 x3_35 P_35 M_35 ex3_35 hj0_35 hn_35 hp_35 hW_35 hf_35
            exact absurd hn_35 (by omega)
          | succ n_35 ih_35 =>
            intro j_35 x2_35 x3_35 P_35 M_35 ex3_35 hj0_35 hn_35 hp_35 hW_35 hf_35 hR H locs ls hP hD hS hl
            rw [f_X2_readFeedItem_p35] at hR
            refine lv_iload_n hx hb dX2_readFeedItem_35 rfl (lv_at hl 3 rfl) ?_
            refine lv_sipush (v := 140) hx hb dX2_readFeedItem_36 (by decide) ?_
            refine lv_icmp_ge (tgt := 81) hx hb dX2_readFeedItem_39 (by decide) (fun c22 => ?_) (fun c22 => ?_)
            · rw [if_pos c22] at hR
              refine lv_iconst (v := 0) hx hb dX2_readFeedItem_81 (by decide) ?_
              exact W.zret (v := 0) hx hb hr rfl (fun t ht hWw => ⟨⟨0, (P_35, M_35), rfl, ⟨hR.symm.trans eR, hp_35, hW_35, (Or.inl rfl)⟩, by rw [ht]; exact hP, hD⟩, hS.F ht⟩) hS.2.2 dX2_readFeedItem_82
            · rw [if_neg c22] at hR
              have hj_35 : j_35 < 140 := lp_ge ex3_35 (by decide +kernel) (by omega) (by omega) c22
              refine lv_aload_n hx hb dX2_readFeedItem_42 rfl (lv_at hl 0 rfl) ?_
              refine lv_aload_n hx hb dX2_readFeedItem_43 rfl (lv_at hl 1 rfl) ?_
              refine lv_iload_n hx hb dX2_readFeedItem_44 rfl (lv_at hl 2 rfl) ?_
              have hPc : va_P (dC, dI) vwCl (cPt a cC P_35 ++ cSt b cI M_35) H := hP.sub [0, 1, 2, 3, 4, 5, 6, 7, 8, 9, 10, 11, 12, 13] rfl
              have hDc : va_D (va_A (cPt a cC P ++ cSt b cI M) s.heap.size) (cPt a cC P_35 ++ cSt b cI M_35) := hD.sub [0, 1, 2, 3, 4, 5, 6, 7, 8, 9, 10, 11, 12, 13] (by decide) rfl
              have hFc : ∀ q : Nat, va_A (cPt a cC P_35 ++ cSt b cI M_35) H.size q → (va_A (cPt a cC P ++ cSt b cI M) s.heap.size) q := va_free hD hS hA [0, 1, 2, 3, 4, 5, 6, 7, 8, 9, 10, 11, 12, 13] rfl
              refine va_calli (va_runV (As := [.ref (b 0), .int x2_35]) (rest := []) ⟨hx, hb, hml, hown, hts⟩ (c_X2_readSend l dC dI cI cC cS a b P_35 M_35 H.size x2_35 hf_35 hp_35 hW_35) (cwV 2 hts gX2_readFeedItem_X2_readSend rfl rfl rfl (by decide +kernel) ⟨Nat.le_of_ble_eq_true rfl, Nat.le_of_ble_eq_true rfl⟩) (pV (q0 := 0) hK hPc hDc hN rfl rfl) rfl rfl hl.1 rfl (lv_room (Nat.le_of_ble_eq_true rfl)) dX2_readFeedItem_45 ⟨Nat.le_of_ble_eq_true rfl, Nat.le_of_ble_eq_true rfl⟩) hS (fun q _ h => hFc q h) hFc (fun r_23 u_23 t_23 H24 locs ht hvm hw hB hz1 hk1 hS => ?_)
              obtain ⟨hw, hens25, hens26, hens27⟩ := hw
              obtain ⟨hP1, hD1⟩ := hB
              rw [ht] at hP1
              have hw1 : r_23 = (f_X2_readSend P_35 M_35 x2_35).1 := congrArg Prod.fst hw
              have hw2 : u_23 = (f_X2_readSend P_35 M_35 x2_35).2 := congrArg Prod.snd hw
              clear hw
              subst hw1
              subst hw2
              obtain ⟨hP, hD⟩ := va_join (wc := cPt a cC P_35 ++ cSt b cI M_35) (wr := []) (w1 := cPt a cC ((f_X2_readSend P_35 M_35 x2_35).2.1) ++ cSt b cI ((f_X2_readSend P_35 M_35 x2_35).2.2)) hP hD [0, 1, 2, 3, 4, 5, 6, 7, 8, 9, 10, 11, 12, 13] [] rfl rfl (by decide) (by decide) hk1 hFc hP1 hD1
              have hP : va_P (dC, dI) vwCl (cPt a cC ((f_X2_readSend P_35 M_35 x2_35).2.1) ++ cSt b cI ((f_X2_readSend P_35 M_35 x2_35).2.2)) H24 := hP.sub [0, 1, 2, 3, 4, 5, 6, 7, 8, 9, 10, 11, 12, 13] rfl
              have hD : va_D (va_A (cPt a cC P ++ cSt b cI M) s.heap.size) (cPt a cC ((f_X2_readSend P_35 M_35 x2_35).2.1) ++ cSt b cI ((f_X2_readSend P_35 M_35 x2_35).2.2)) := hD.sub [0, 1, 2, 3, 4, 5, 6, 7, 8, 9, 10, 11, 12, 13] (by decide) rfl
              obtain ⟨Pn28, ePn28⟩ : ∃ z : SR, z = (f_X2_readSend P_35 M_35 x2_35).2.1 := ⟨_, rfl⟩
              rw [sLet_eq, ← ePn28] at hR
              rw [← ePn28] at hP hD
              have hp29 : WFP Pn28 := by rw [ePn28]; exact hens25
              obtain ⟨Mn30, eMn30⟩ : ∃ z : SR, z = (f_X2_readSend P_35 M_35 x2_35).2.2 := ⟨_, rfl⟩
              rw [sLet_eq, ← eMn30] at hR
              rw [← eMn30] at hP hD
              have hW31 : WF Mn30 := by rw [eMn30]; exact hens26
              refine lv_if_ne (tgt := 53) hx hb dX2_readFeedItem_48 (by decide) (fun c32 => ?_) (fun c32 => ?_)
              · rw [if_neg c32] at hR
                refine lv_aload_n hx hb dX2_readFeedItem_53 rfl (lv_at hl 0 rfl) ?_
                refine lv_bipush (v := 59) hx hb dX2_readFeedItem_54 (by decide) ?_
                have hPc : va_P (dC, dI) vwCl (cPt a cC Pn28) H24 := hP.sub [0, 1] rfl
                have hDc : va_D (va_A (cPt a cC P ++ cSt b cI M) s.heap.size) (cPt a cC Pn28) := hD.sub [0, 1] (by decide) rfl
                have hFc : ∀ q : Nat, va_A (cPt a cC Pn28) H24.size q → (va_A (cPt a cC P ++ cSt b cI M) s.heap.size) q := va_free hD hS hA [0, 1] rfl
                refine va_calli (va_runV (As := [.int 59]) (rest := []) ⟨hx, hb, hml, hown, hts⟩ (c_X2_takes l dC dI cI cC cS a Pn28 H24.size 59 hp29) (cwV 1 hts gX2_readFeedItem_X2_takes rfl rfl rfl (by decide +kernel) ⟨Nat.le_of_ble_eq_true rfl, Nat.le_of_ble_eq_true rfl⟩) (pV (q0 := 0) hK hPc hDc hN rfl rfl) rfl rfl hl.1 rfl (lv_room (Nat.le_of_ble_eq_true rfl)) dX2_readFeedItem_56 ⟨Nat.le_of_ble_eq_true rfl, Nat.le_of_ble_eq_true rfl⟩) hS (fun q _ h => hFc q h) hFc (fun r_33 u_33 t_33 H34 locs ht hvm hw hB hz1 hk1 hS => ?_)
                obtain ⟨hw, hens35, hens36⟩ := hw
                obtain ⟨hP1, hD1⟩ := hB
                rw [ht] at hP1
                have hw1 : r_33 = (f_X2_takes Pn28 59).1 := congrArg Prod.fst hw
                have hw2 : u_33 = (f_X2_takes Pn28 59).2 := congrArg Prod.snd hw
                clear hw
                subst hw1
                subst hw2
                obtain ⟨hP, hD⟩ := va_join (wc := cPt a cC Pn28) (wr := [(b 0, .inr (4, [.ref (b 1), .ref (b 2), .ref (b 3), .int (Mn30 10 0), .int (Mn30 10 1), .int (Mn30 10 2), .ref (b 4), .ref (b 5), .ref (b 6), .ref (b 7), .ref (b 8), .int (Mn30 10 3), .int (Mn30 10 4), .int (Mn30 10 5), .int (Mn30 10 6), .ref (b 9), .int (Mn30 10 7), .ref (b 10)])), (b 1, .inl (cI, 12, .inl (Mn30 0))), (b 2, .inl (cI, 16, .inl (Mn30 1))), (b 3, .inl (cI, 12, .inl (Mn30 2))), (b 4, .inl (cI, 48, .inl (Mn30 3))), (b 5, .inl (cI, 4, .inl (Mn30 4))), (b 6, .inl (cI, 4, .inl (Mn30 5))), (b 7, .inl (cI, 12, .inl (Mn30 6))), (b 8, .inl (cI, 4, .inl (Mn30 7))), (b 9, .inl (cI, 102, .inl (Mn30 8))), (b 10, .inr (0, [.int (Mn30 11 0), .int (Mn30 11 1), .int (Mn30 11 2), .int (Mn30 11 3), .ref (b 11)])), (b 11, .inl (cI, 16, .inl (Mn30 9)))]) (w1 := cPt a cC ((f_X2_takes Pn28 59).2)) hP hD [0, 1] [2, 3, 4, 5, 6, 7, 8, 9, 10, 11, 12, 13] rfl rfl (by decide) (by decide) hk1 hFc hP1 hD1
                have hP : va_P (dC, dI) vwCl (cPt a cC ((f_X2_takes Pn28 59).2) ++ cSt b cI Mn30) H34 := hP.sub [12, 13, 0, 1, 2, 3, 4, 5, 6, 7, 8, 9, 10, 11] rfl
                have hD : va_D (va_A (cPt a cC P ++ cSt b cI M) s.heap.size) (cPt a cC ((f_X2_takes Pn28 59).2) ++ cSt b cI Mn30) := hD.sub [12, 13, 0, 1, 2, 3, 4, 5, 6, 7, 8, 9, 10, 11] (by decide) rfl
                obtain ⟨Pn37, ePn37⟩ : ∃ z : SR, z = (f_X2_takes Pn28 59).2 := ⟨_, rfl⟩
                rw [sLet_eq, ← ePn37] at hR
                rw [← ePn37] at hP hD
                have hp38 : WFP Pn37 := by rw [ePn37]; exact hens35
                refine lv_if_eq (tgt := 64) hx hb dX2_readFeedItem_59 (by decide) (fun c39 => ?_) (fun c39 => ?_)
                · rw [if_pos c39] at hR
                  refine lv_aload_n hx hb dX2_readFeedItem_64 rfl (lv_at hl 0 rfl) ?_
                  refine lv_bipush (v := 44) hx hb dX2_readFeedItem_65 (by decide) ?_
                  have hPc : va_P (dC, dI) vwCl (cPt a cC Pn37) H34 := hP.sub [0, 1] rfl
                  have hDc : va_D (va_A (cPt a cC P ++ cSt b cI M) s.heap.size) (cPt a cC Pn37) := hD.sub [0, 1] (by decide) rfl
                  have hFc : ∀ q : Nat, va_A (cPt a cC Pn37) H34.size q → (va_A (cPt a cC P ++ cSt b cI M) s.heap.size) q := va_free hD hS hA [0, 1] rfl
                  refine va_calli (va_runV (As := [.int 44]) (rest := []) ⟨hx, hb, hml, hown, hts⟩ (c_X2_takes l dC dI cI cC cS a Pn37 H34.size 44 hp38) (cwV 1 hts gX2_readFeedItem_X2_takes rfl rfl rfl (by decide +kernel) ⟨Nat.le_of_ble_eq_true rfl, Nat.le_of_ble_eq_true rfl⟩) (pV (q0 := 0) hK hPc hDc hN rfl rfl) rfl rfl hl.1 rfl (lv_room (Nat.le_of_ble_eq_true rfl)) dX2_readFeedItem_67 ⟨Nat.le_of_ble_eq_true rfl, Nat.le_of_ble_eq_true rfl⟩) hS (fun q _ h => hFc q h) hFc (fun r_40 u_40 t_40 H41 locs ht hvm hw hB hz1 hk1 hS => ?_)
                  obtain ⟨hw, hens42, hens43⟩ := hw
                  obtain ⟨hP1, hD1⟩ := hB
                  rw [ht] at hP1
                  have hw1 : r_40 = (f_X2_takes Pn37 44).1 := congrArg Prod.fst hw
                  have hw2 : u_40 = (f_X2_takes Pn37 44).2 := congrArg Prod.snd hw
                  clear hw
                  subst hw1
                  subst hw2
                  obtain ⟨hP, hD⟩ := va_join (wc := cPt a cC Pn37) (wr := [(b 0, .inr (4, [.ref (b 1), .ref (b 2), .ref (b 3), .int (Mn30 10 0), .int (Mn30 10 1), .int (Mn30 10 2), .ref (b 4), .ref (b 5), .ref (b 6), .ref (b 7), .ref (b 8), .int (Mn30 10 3), .int (Mn30 10 4), .int (Mn30 10 5), .int (Mn30 10 6), .ref (b 9), .int (Mn30 10 7), .ref (b 10)])), (b 1, .inl (cI, 12, .inl (Mn30 0))), (b 2, .inl (cI, 16, .inl (Mn30 1))), (b 3, .inl (cI, 12, .inl (Mn30 2))), (b 4, .inl (cI, 48, .inl (Mn30 3))), (b 5, .inl (cI, 4, .inl (Mn30 4))), (b 6, .inl (cI, 4, .inl (Mn30 5))), (b 7, .inl (cI, 12, .inl (Mn30 6))), (b 8, .inl (cI, 4, .inl (Mn30 7))), (b 9, .inl (cI, 102, .inl (Mn30 8))), (b 10, .inr (0, [.int (Mn30 11 0), .int (Mn30 11 1), .int (Mn30 11 2), .int (Mn30 11 3), .ref (b 11)])), (b 11, .inl (cI, 16, .inl (Mn30 9)))]) (w1 := cPt a cC ((f_X2_takes Pn37 44).2)) hP hD [0, 1] [2, 3, 4, 5, 6, 7, 8, 9, 10, 11, 12, 13] rfl rfl (by decide) (by decide) hk1 hFc hP1 hD1
                  have hP : va_P (dC, dI) vwCl (cPt a cC ((f_X2_takes Pn37 44).2) ++ cSt b cI Mn30) H41 := hP.sub [12, 13, 0, 1, 2, 3, 4, 5, 6, 7, 8, 9, 10, 11] rfl
                  have hD : va_D (va_A (cPt a cC P ++ cSt b cI M) s.heap.size) (cPt a cC ((f_X2_takes Pn37 44).2) ++ cSt b cI Mn30) := hD.sub [12, 13, 0, 1, 2, 3, 4, 5, 6, 7, 8, 9, 10, 11] (by decide) rfl
                  obtain ⟨Pn44, ePn44⟩ : ∃ z : SR, z = (f_X2_takes Pn37 44).2 := ⟨_, rfl⟩
                  rw [sLet_eq, ← ePn44] at hR
                  rw [← ePn44] at hP hD
                  have hp45 : WFP Pn44 := by rw [ePn44]; exact hens42
                  refine lv_if_ne (tgt := 75) hx hb dX2_readFeedItem_70 (by decide) (fun c46 => ?_) (fun c46 => ?_)
                  · rw [if_neg c46] at hR
                    refine lv_iinc (v := x3_35 + 1) (lv' := [(3, .int (x3_35 + 1)), (0, .ref (a 0)), (1, .ref (b 0)), (2, .int x2_35)]) hx hb dX2_readFeedItem_75 hl (k := 3) rfl rfl (by decide) rfl (fun ls hl => ?_)
                    refine lv_goto (tgt := 35) hx hb dX2_readFeedItem_78 (by decide) ?_
                    exact ih_35 (j_35 + 1) x2_35 (x3_35 + 1) Pn44 Mn30 (by rw [ex3_35, nI_1]) (by omega) (by omega) hp45 hW31 hf_35 hR _ _ _ hP hD hS (lv_sub hl [1, 2, 3, 0] rfl)
                  · rw [if_pos c46] at hR
                    refine lv_iconst (v := 0) hx hb dX2_readFeedItem_73 (by decide) ?_
                    exact W.zret (v := 0) hx hb hr rfl (fun t ht hWw => ⟨⟨0, (Pn44, Mn30), rfl, ⟨hR.symm.trans eR, hp45, hW31, (Or.inl rfl)⟩, by rw [ht]; exact hP, hD⟩, hS.F ht⟩) hS.2.2 dX2_readFeedItem_74
                · rw [if_neg c39] at hR
                  refine lv_iconst (v := 1) hx hb dX2_readFeedItem_62 (by decide) ?_
                  exact W.zret (v := 1) hx hb hr rfl (fun t ht hWw => ⟨⟨1, (Pn37, Mn30), rfl, ⟨hR.symm.trans eR, hp38, hW31, (Or.inr rfl)⟩, by rw [ht]; exact hP, hD⟩, hS.F ht⟩) hS.2.2 dX2_readFeedItem_63
              · rw [if_pos c32] at hR
                refine lv_iconst (v := 0) hx hb dX2_readFeedItem_51 (by decide) ?_
                exact W.zret (v := 0) hx hb hr rfl (fun t ht hWw => ⟨⟨0, (Pn28, Mn30), rfl, ⟨hR.symm.trans eR, hp29, hW31, (Or.inl rfl)⟩, by rw [ht]; exact hP, hD⟩, hS.F ht⟩) hS.2.2 dX2_readFeedItem_52
        exact hL_35 141 0 ((f_X2_readNumber P 3).1) 0 Pn19 M (by decide +kernel) (by decide) (by decide) hp20 hW (rd_vp hens4 c7) hR _ _ _ hP hD hS (lv_sub hl [2, 3, 1, 0] rfl)
      · rw [if_neg c21] at hR
        refine lv_iconst (v := 1) hx hb dX2_readFeedItem_31 (by decide) ?_
        exact W.zret (v := 1) hx hb hr rfl (fun t ht hWw => ⟨⟨1, (Pn19, M), rfl, ⟨hR.symm.trans eR, hp20, hW, (Or.inr rfl)⟩, by rw [ht]; exact hP, hD⟩, hS.F ht⟩) hS.2.2 dX2_readFeedItem_32
    · rw [if_pos c14] at hR
      refine lv_iconst (v := 0) hx hb dX2_readFeedItem_20 (by decide) ?_
      exact W.zret (v := 0) hx hb hr rfl (fun t ht hWw => ⟨⟨0, (Pn12, M), rfl, ⟨hR.symm.trans eR, hp13, hW, (Or.inl rfl)⟩, by rw [ht]; exact hP, hD⟩, hS.F ht⟩) hS.2.2 dX2_readFeedItem_21
abbrev rm_X2_readItem : Room := { frames := 6, cells := 0, slots := 0, locals := 139 }
def f_X2_readItem (P : SR) (M : SR)  : Int32 × SR × SR := sLet ((f_X2_takes P 99).2) (fun Pn5 : SR => (if ((f_X2_takes P 99).1) = 0 then sLet ((f_X2_takes Pn5 120).2) (fun Pn12 : SR => (if ((f_X2_takes Pn5 120).1) = 0 then (0, Pn12, M) else sLet ((f_X2_readFeedItem Pn12 M).2.1) (fun Pn20 : SR => sLet ((f_X2_readFeedItem Pn12 M).2.2) (fun Mn22 : SR => ((f_X2_readFeedItem Pn12 M).1, Pn20, Mn22))))) else sLet ((f_X2_readChannelItem Pn5 M).2.1) (fun Pn29 : SR => sLet ((f_X2_readChannelItem Pn5 M).2.2) (fun Mn31 : SR => ((f_X2_readChannelItem Pn5 M).1, Pn29, Mn31)))))
set_option maxHeartbeats 4000000 in
set_option maxRecDepth 100000 in
theorem c_X2_readItem (l : Launch) (dC : Nat → ClassId) (dI : Nat → Nat → Nat) (cI cC cS : ClassId) (a : Nat → Nat) (b : Nat → Nat) (P : SR) (M : SR) (sz : Nat)  (hp : WFP P) (hW : WF M) : Met l yX2_readItem wsX2_readItem rm_X2_readItem (PcS (dC, dI) (tyL cI cC cS) (cPt a cC P ++ cSt b cI M) sz [.ref (a 0), .ref (b 0)] (va_A (cPt a cC P ++ cSt b cI M) sz)) (va_Qi (fun (r : Int32) (u : SR × SR) => (r, u) = f_X2_readItem P M ∧ (WFP u.1) ∧ (WF u.2) ∧ (r = 0 ∨ r = 1)) (fun u U => va_P (dC, dI) vwCl (cPt a cC u.1 ++ cSt b cI u.2) U.heap ∧ va_D (va_A (cPt a cC P ++ cSt b cI M) sz) (cPt a cC u.1 ++ cSt b cI u.2)) (va_A (cPt a cC P ++ cSt b cI M) sz)) 0 0 (va_A (cPt a cC P ++ cSt b cI M) sz) := by
  refine Met.ofW (cc := cX2_readItem) (maxL := 2) (ret := (some .boolean)) (by decide) rfl ?_
  intro p e s m args below meth c s₁ B hml hv
  obtain ⟨rfl, hsz, hP, hK, hD0, hN, hT⟩ := hv
  have hx := B.exec
  have hb := B.bytes
  have hr := B.returns
  have hts := atoms_spec (ws := wsX2_readItem) B.pre
  have hown : s.vm.findClass RX2 = some m.cls := findClass_of_methodNamed B.named
  have hlocks := B.notSynchronized
  subst hsz
  obtain ⟨⟨tc, hZc, hTc⟩, ⟨tg, hZg, hTg⟩, ⟨ks, kv, hSk, hSr⟩⟩ := id hT
  have hD := hD0.self (sz := s.heap.size)
  have hA : ∀ q : Nat, s.heap.size ≤ q → (va_A (cPt a cC P ++ cSt b cI M) s.heap.size) q := fun q h => Or.inr h
  have hS : va_S (va_A (cPt a cC P ++ cSt b cI M) s.heap.size) s.heap s.heap [] := va_S.rf
  have hl := lv_entry [.ref (a 0), .ref (b 0)] (n := 2) (Nat.le_of_ble_eq_true rfl)
  rw [lg_entry_eq]
  generalize (lg_sl [.ref (a 0), .ref (b 0)] ++ List.replicate (2 - (lg_sl [.ref (a 0), .ref (b 0)]).length) Slot.unset).toArray = ls at hl ⊢
  have hl : lv_has ls 2 [(0, .ref (a 0)), (1, .ref (b 0))] := hl
  obtain ⟨R0, eR⟩ : ∃ z, z = f_X2_readItem P M := ⟨_, rfl⟩
  have hR := eR
  rw [f_X2_readItem] at hR
  refine lv_aload_n hx hb dX2_readItem_0 rfl (lv_at hl 0 rfl) ?_
  refine lv_bipush (v := 99) hx hb dX2_readItem_1 (by decide) ?_
  have hPc : va_P (dC, dI) vwCl (cPt a cC P) s.heap := hP.sub [0, 1] rfl
  have hDc : va_D (va_A (cPt a cC P ++ cSt b cI M) s.heap.size) (cPt a cC P) := hD.sub [0, 1] (by decide) rfl
  have hFc : ∀ q : Nat, va_A (cPt a cC P) s.heap.size q → (va_A (cPt a cC P ++ cSt b cI M) s.heap.size) q := va_free hD hS hA [0, 1] rfl
  refine va_calli (va_runV (As := [.int 99]) (rest := []) ⟨hx, hb, hml, hown, hts⟩ (c_X2_takes l dC dI cI cC cS a P s.heap.size 99 hp) (cwV 1 hts gX2_readItem_X2_takes rfl rfl rfl (by decide +kernel) ⟨Nat.le_of_ble_eq_true rfl, Nat.le_of_ble_eq_true rfl⟩) (pV (q0 := 0) hK hPc hDc hN rfl rfl) rfl rfl hl.1 rfl (lv_room (Nat.le_of_ble_eq_true rfl)) dX2_readItem_3 ⟨Nat.le_of_ble_eq_true rfl, Nat.le_of_ble_eq_true rfl⟩) hS (fun q _ h => hFc q h) hFc (fun r_1 u_1 t_1 H2 locs ht hvm hw hB hz1 hk1 hS => ?_)
  obtain ⟨hw, hens3, hens4⟩ := hw
  obtain ⟨hP1, hD1⟩ := hB
  rw [ht] at hP1
  have hw1 : r_1 = (f_X2_takes P 99).1 := congrArg Prod.fst hw
  have hw2 : u_1 = (f_X2_takes P 99).2 := congrArg Prod.snd hw
  clear hw
  subst hw1
  subst hw2
  obtain ⟨hP, hD⟩ := va_join (wc := cPt a cC P) (wr := [(b 0, .inr (4, [.ref (b 1), .ref (b 2), .ref (b 3), .int (M 10 0), .int (M 10 1), .int (M 10 2), .ref (b 4), .ref (b 5), .ref (b 6), .ref (b 7), .ref (b 8), .int (M 10 3), .int (M 10 4), .int (M 10 5), .int (M 10 6), .ref (b 9), .int (M 10 7), .ref (b 10)])), (b 1, .inl (cI, 12, .inl (M 0))), (b 2, .inl (cI, 16, .inl (M 1))), (b 3, .inl (cI, 12, .inl (M 2))), (b 4, .inl (cI, 48, .inl (M 3))), (b 5, .inl (cI, 4, .inl (M 4))), (b 6, .inl (cI, 4, .inl (M 5))), (b 7, .inl (cI, 12, .inl (M 6))), (b 8, .inl (cI, 4, .inl (M 7))), (b 9, .inl (cI, 102, .inl (M 8))), (b 10, .inr (0, [.int (M 11 0), .int (M 11 1), .int (M 11 2), .int (M 11 3), .ref (b 11)])), (b 11, .inl (cI, 16, .inl (M 9)))]) (w1 := cPt a cC ((f_X2_takes P 99).2)) hP hD [0, 1] [2, 3, 4, 5, 6, 7, 8, 9, 10, 11, 12, 13] rfl rfl (by decide) (by decide) hk1 hFc hP1 hD1
  have hP : va_P (dC, dI) vwCl (cPt a cC ((f_X2_takes P 99).2) ++ cSt b cI M) H2 := hP.sub [12, 13, 0, 1, 2, 3, 4, 5, 6, 7, 8, 9, 10, 11] rfl
  have hD : va_D (va_A (cPt a cC P ++ cSt b cI M) s.heap.size) (cPt a cC ((f_X2_takes P 99).2) ++ cSt b cI M) := hD.sub [12, 13, 0, 1, 2, 3, 4, 5, 6, 7, 8, 9, 10, 11] (by decide) rfl
  obtain ⟨Pn5, ePn5⟩ : ∃ z : SR, z = (f_X2_takes P 99).2 := ⟨_, rfl⟩
  rw [sLet_eq, ← ePn5] at hR
  rw [← ePn5] at hP hD
  have hp6 : WFP Pn5 := by rw [ePn5]; exact hens3
  refine lv_if_eq (tgt := 15) hx hb dX2_readItem_6 (by decide) (fun c7 => ?_) (fun c7 => ?_)
  · rw [if_pos c7] at hR
    refine lv_aload_n hx hb dX2_readItem_15 rfl (lv_at hl 0 rfl) ?_
    refine lv_bipush (v := 120) hx hb dX2_readItem_16 (by decide) ?_
    have hPc : va_P (dC, dI) vwCl (cPt a cC Pn5) H2 := hP.sub [0, 1] rfl
    have hDc : va_D (va_A (cPt a cC P ++ cSt b cI M) s.heap.size) (cPt a cC Pn5) := hD.sub [0, 1] (by decide) rfl
    have hFc : ∀ q : Nat, va_A (cPt a cC Pn5) H2.size q → (va_A (cPt a cC P ++ cSt b cI M) s.heap.size) q := va_free hD hS hA [0, 1] rfl
    refine va_calli (va_runV (As := [.int 120]) (rest := []) ⟨hx, hb, hml, hown, hts⟩ (c_X2_takes l dC dI cI cC cS a Pn5 H2.size 120 hp6) (cwV 1 hts gX2_readItem_X2_takes rfl rfl rfl (by decide +kernel) ⟨Nat.le_of_ble_eq_true rfl, Nat.le_of_ble_eq_true rfl⟩) (pV (q0 := 0) hK hPc hDc hN rfl rfl) rfl rfl hl.1 rfl (lv_room (Nat.le_of_ble_eq_true rfl)) dX2_readItem_18 ⟨Nat.le_of_ble_eq_true rfl, Nat.le_of_ble_eq_true rfl⟩) hS (fun q _ h => hFc q h) hFc (fun r_8 u_8 t_8 H9 locs ht hvm hw hB hz1 hk1 hS => ?_)
    obtain ⟨hw, hens10, hens11⟩ := hw
    obtain ⟨hP1, hD1⟩ := hB
    rw [ht] at hP1
    have hw1 : r_8 = (f_X2_takes Pn5 120).1 := congrArg Prod.fst hw
    have hw2 : u_8 = (f_X2_takes Pn5 120).2 := congrArg Prod.snd hw
    clear hw
    subst hw1
    subst hw2
    obtain ⟨hP, hD⟩ := va_join (wc := cPt a cC Pn5) (wr := [(b 0, .inr (4, [.ref (b 1), .ref (b 2), .ref (b 3), .int (M 10 0), .int (M 10 1), .int (M 10 2), .ref (b 4), .ref (b 5), .ref (b 6), .ref (b 7), .ref (b 8), .int (M 10 3), .int (M 10 4), .int (M 10 5), .int (M 10 6), .ref (b 9), .int (M 10 7), .ref (b 10)])), (b 1, .inl (cI, 12, .inl (M 0))), (b 2, .inl (cI, 16, .inl (M 1))), (b 3, .inl (cI, 12, .inl (M 2))), (b 4, .inl (cI, 48, .inl (M 3))), (b 5, .inl (cI, 4, .inl (M 4))), (b 6, .inl (cI, 4, .inl (M 5))), (b 7, .inl (cI, 12, .inl (M 6))), (b 8, .inl (cI, 4, .inl (M 7))), (b 9, .inl (cI, 102, .inl (M 8))), (b 10, .inr (0, [.int (M 11 0), .int (M 11 1), .int (M 11 2), .int (M 11 3), .ref (b 11)])), (b 11, .inl (cI, 16, .inl (M 9)))]) (w1 := cPt a cC ((f_X2_takes Pn5 120).2)) hP hD [0, 1] [2, 3, 4, 5, 6, 7, 8, 9, 10, 11, 12, 13] rfl rfl (by decide) (by decide) hk1 hFc hP1 hD1
    have hP : va_P (dC, dI) vwCl (cPt a cC ((f_X2_takes Pn5 120).2) ++ cSt b cI M) H9 := hP.sub [12, 13, 0, 1, 2, 3, 4, 5, 6, 7, 8, 9, 10, 11] rfl
    have hD : va_D (va_A (cPt a cC P ++ cSt b cI M) s.heap.size) (cPt a cC ((f_X2_takes Pn5 120).2) ++ cSt b cI M) := hD.sub [12, 13, 0, 1, 2, 3, 4, 5, 6, 7, 8, 9, 10, 11] (by decide) rfl
    obtain ⟨Pn12, ePn12⟩ : ∃ z : SR, z = (f_X2_takes Pn5 120).2 := ⟨_, rfl⟩
    rw [sLet_eq, ← ePn12] at hR
    rw [← ePn12] at hP hD
    have hp13 : WFP Pn12 := by rw [ePn12]; exact hens10
    refine lv_if_eq (tgt := 30) hx hb dX2_readItem_21 (by decide) (fun c14 => ?_) (fun c14 => ?_)
    · rw [if_pos c14] at hR
      refine lv_iconst (v := 0) hx hb dX2_readItem_30 (by decide) ?_
      exact W.zret (v := 0) hx hb hr rfl (fun t ht hWw => ⟨⟨0, (Pn12, M), rfl, ⟨hR.symm.trans eR, hp13, hW, (Or.inl rfl)⟩, by rw [ht]; exact hP, hD⟩, hS.F ht⟩) hS.2.2 dX2_readItem_31
    · rw [if_neg c14] at hR
      refine lv_aload_n hx hb dX2_readItem_24 rfl (lv_at hl 0 rfl) ?_
      refine lv_aload_n hx hb dX2_readItem_25 rfl (lv_at hl 1 rfl) ?_
      have hPc : va_P (dC, dI) vwCl (cPt a cC Pn12 ++ cSt b cI M) H9 := hP.sub [0, 1, 2, 3, 4, 5, 6, 7, 8, 9, 10, 11, 12, 13] rfl
      have hDc : va_D (va_A (cPt a cC P ++ cSt b cI M) s.heap.size) (cPt a cC Pn12 ++ cSt b cI M) := hD.sub [0, 1, 2, 3, 4, 5, 6, 7, 8, 9, 10, 11, 12, 13] (by decide) rfl
      have hFc : ∀ q : Nat, va_A (cPt a cC Pn12 ++ cSt b cI M) H9.size q → (va_A (cPt a cC P ++ cSt b cI M) s.heap.size) q := va_free hD hS hA [0, 1, 2, 3, 4, 5, 6, 7, 8, 9, 10, 11, 12, 13] rfl
      refine va_calli (va_runV (As := [.ref (b 0)]) (rest := []) ⟨hx, hb, hml, hown, hts⟩ (c_X2_readFeedItem l dC dI cI cC cS a b Pn12 M H9.size hp13 hW) (cwV 1 hts gX2_readItem_X2_readFeedItem rfl rfl rfl (by decide +kernel) ⟨Nat.le_of_ble_eq_true rfl, Nat.le_of_ble_eq_true rfl⟩) (pV (q0 := 0) hK hPc hDc hN rfl rfl) rfl rfl hl.1 rfl (lv_room (Nat.le_of_ble_eq_true rfl)) dX2_readItem_26 ⟨Nat.le_of_ble_eq_true rfl, Nat.le_of_ble_eq_true rfl⟩) hS (fun q _ h => hFc q h) hFc (fun r_15 u_15 t_15 H16 locs ht hvm hw hB hz1 hk1 hS => ?_)
      obtain ⟨hw, hens17, hens18, hens19⟩ := hw
      obtain ⟨hP1, hD1⟩ := hB
      rw [ht] at hP1
      have hw1 : r_15 = (f_X2_readFeedItem Pn12 M).1 := congrArg Prod.fst hw
      have hw2 : u_15 = (f_X2_readFeedItem Pn12 M).2 := congrArg Prod.snd hw
      clear hw
      subst hw1
      subst hw2
      obtain ⟨hP, hD⟩ := va_join (wc := cPt a cC Pn12 ++ cSt b cI M) (wr := []) (w1 := cPt a cC ((f_X2_readFeedItem Pn12 M).2.1) ++ cSt b cI ((f_X2_readFeedItem Pn12 M).2.2)) hP hD [0, 1, 2, 3, 4, 5, 6, 7, 8, 9, 10, 11, 12, 13] [] rfl rfl (by decide) (by decide) hk1 hFc hP1 hD1
      have hP : va_P (dC, dI) vwCl (cPt a cC ((f_X2_readFeedItem Pn12 M).2.1) ++ cSt b cI ((f_X2_readFeedItem Pn12 M).2.2)) H16 := hP.sub [0, 1, 2, 3, 4, 5, 6, 7, 8, 9, 10, 11, 12, 13] rfl
      have hD : va_D (va_A (cPt a cC P ++ cSt b cI M) s.heap.size) (cPt a cC ((f_X2_readFeedItem Pn12 M).2.1) ++ cSt b cI ((f_X2_readFeedItem Pn12 M).2.2)) := hD.sub [0, 1, 2, 3, 4, 5, 6, 7, 8, 9, 10, 11, 12, 13] (by decide) rfl
      obtain ⟨Pn20, ePn20⟩ : ∃ z : SR, z = (f_X2_readFeedItem Pn12 M).2.1 := ⟨_, rfl⟩
      rw [sLet_eq, ← ePn20] at hR
      rw [← ePn20] at hP hD
      have hp21 : WFP Pn20 := by rw [ePn20]; exact hens17
      obtain ⟨Mn22, eMn22⟩ : ∃ z : SR, z = (f_X2_readFeedItem Pn12 M).2.2 := ⟨_, rfl⟩
      rw [sLet_eq, ← eMn22] at hR
      rw [← eMn22] at hP hD
      have hW23 : WF Mn22 := by rw [eMn22]; exact hens18
      exact W.zret (v := (f_X2_readFeedItem Pn12 M).1) hx hb hr (nar_bool hens19) (fun t ht hWw => ⟨⟨(f_X2_readFeedItem Pn12 M).1, (Pn20, Mn22), rfl, ⟨hR.symm.trans eR, hp21, hW23, hens19⟩, by rw [ht]; exact hP, hD⟩, hS.F ht⟩) hS.2.2 dX2_readItem_29
  · rw [if_neg c7] at hR
    refine lv_aload_n hx hb dX2_readItem_9 rfl (lv_at hl 0 rfl) ?_
    refine lv_aload_n hx hb dX2_readItem_10 rfl (lv_at hl 1 rfl) ?_
    have hPc : va_P (dC, dI) vwCl (cPt a cC Pn5 ++ cSt b cI M) H2 := hP.sub [0, 1, 2, 3, 4, 5, 6, 7, 8, 9, 10, 11, 12, 13] rfl
    have hDc : va_D (va_A (cPt a cC P ++ cSt b cI M) s.heap.size) (cPt a cC Pn5 ++ cSt b cI M) := hD.sub [0, 1, 2, 3, 4, 5, 6, 7, 8, 9, 10, 11, 12, 13] (by decide) rfl
    have hFc : ∀ q : Nat, va_A (cPt a cC Pn5 ++ cSt b cI M) H2.size q → (va_A (cPt a cC P ++ cSt b cI M) s.heap.size) q := va_free hD hS hA [0, 1, 2, 3, 4, 5, 6, 7, 8, 9, 10, 11, 12, 13] rfl
    refine va_calli (va_runV (As := [.ref (b 0)]) (rest := []) ⟨hx, hb, hml, hown, hts⟩ (c_X2_readChannelItem l dC dI cI cC cS a b Pn5 M H2.size hp6 hW) (cwV 1 hts gX2_readItem_X2_readChannelItem rfl rfl rfl (by decide +kernel) ⟨Nat.le_of_ble_eq_true rfl, Nat.le_of_ble_eq_true rfl⟩) (pVS (q0 := 0) hK hPc hDc hN hT hS hFc rfl rfl) rfl rfl hl.1 rfl (lv_room (Nat.le_of_ble_eq_true rfl)) dX2_readItem_11 ⟨Nat.le_of_ble_eq_true rfl, Nat.le_of_ble_eq_true rfl⟩) hS (fun q _ h => hFc q h) hFc (fun r_24 u_24 t_24 H25 locs ht hvm hw hB hz1 hk1 hS => ?_)
    obtain ⟨hw, hens26, hens27, hens28⟩ := hw
    obtain ⟨hP1, hD1⟩ := hB
    rw [ht] at hP1
    have hw1 : r_24 = (f_X2_readChannelItem Pn5 M).1 := congrArg Prod.fst hw
    have hw2 : u_24 = (f_X2_readChannelItem Pn5 M).2 := congrArg Prod.snd hw
    clear hw
    subst hw1
    subst hw2
    obtain ⟨hP, hD⟩ := va_join (wc := cPt a cC Pn5 ++ cSt b cI M) (wr := []) (w1 := cPt a cC ((f_X2_readChannelItem Pn5 M).2.1) ++ cSt b cI ((f_X2_readChannelItem Pn5 M).2.2)) hP hD [0, 1, 2, 3, 4, 5, 6, 7, 8, 9, 10, 11, 12, 13] [] rfl rfl (by decide) (by decide) hk1 hFc hP1 hD1
    have hP : va_P (dC, dI) vwCl (cPt a cC ((f_X2_readChannelItem Pn5 M).2.1) ++ cSt b cI ((f_X2_readChannelItem Pn5 M).2.2)) H25 := hP.sub [0, 1, 2, 3, 4, 5, 6, 7, 8, 9, 10, 11, 12, 13] rfl
    have hD : va_D (va_A (cPt a cC P ++ cSt b cI M) s.heap.size) (cPt a cC ((f_X2_readChannelItem Pn5 M).2.1) ++ cSt b cI ((f_X2_readChannelItem Pn5 M).2.2)) := hD.sub [0, 1, 2, 3, 4, 5, 6, 7, 8, 9, 10, 11, 12, 13] (by decide) rfl
    obtain ⟨Pn29, ePn29⟩ : ∃ z : SR, z = (f_X2_readChannelItem Pn5 M).2.1 := ⟨_, rfl⟩
    rw [sLet_eq, ← ePn29] at hR
    rw [← ePn29] at hP hD
    have hp30 : WFP Pn29 := by rw [ePn29]; exact hens26
    obtain ⟨Mn31, eMn31⟩ : ∃ z : SR, z = (f_X2_readChannelItem Pn5 M).2.2 := ⟨_, rfl⟩
    rw [sLet_eq, ← eMn31] at hR
    rw [← eMn31] at hP hD
    have hW32 : WF Mn31 := by rw [eMn31]; exact hens27
    exact W.zret (v := (f_X2_readChannelItem Pn5 M).1) hx hb hr (nar_bool hens28) (fun t ht hWw => ⟨⟨(f_X2_readChannelItem Pn5 M).1, (Pn29, Mn31), rfl, ⟨hR.symm.trans eR, hp30, hW32, hens28⟩, by rw [ht]; exact hP, hD⟩, hS.F ht⟩) hS.2.2 dX2_readItem_14
abbrev rm_X2_carryOutOn : Room := { frames := 7, cells := 0, slots := 0, locals := 160 }
def f_X2_carryOutOn_p7   : Nat → Int32 → SR → SR → (Int32 × SR × SR)
  | 0, _, P_7, M_7 => (0, P_7, M_7)
  | n_7 + 1, x2_7, P_7, M_7 => (if 140 ≤ x2_7 then ((-1000) - (P_7 1 1), P_7, M_7) else sLet ((f_X2_skipSpaces P_7)) (fun Pn8 : SR => (if (Pn8 1 1) < (Pn8 1 0) then sLet ((f_X2_readItem Pn8 M_7).2.1) (fun Pn16 : SR => sLet ((f_X2_readItem Pn8 M_7).2.2) (fun Mn18 : SR => (if ((f_X2_readItem Pn8 M_7).1) = 0 then ((-1000) - (Pn16 1 1), Pn16, Mn18) else (f_X2_carryOutOn_p7 n_7) (x2_7 + 1) Pn16 Mn18))) else (x2_7, Pn8, M_7))))
def f_X2_carryOutOn (P : SR) (M : SR)  : Int32 × SR × SR := sLet (sU P 1 1 0) (fun Pn2 : SR => f_X2_carryOutOn_p7 141 0 Pn2 M)
set_option maxHeartbeats 4000000 in
set_option maxRecDepth 100000 in
theorem c_X2_carryOutOn (l : Launch) (dC : Nat → ClassId) (dI : Nat → Nat → Nat) (cI cC cS : ClassId) (a : Nat → Nat) (b : Nat → Nat) (P : SR) (M : SR) (sz : Nat)  (hLn : LN P) (hW : WF M) : Met l yX2_carryOutOn wsX2_carryOutOn rm_X2_carryOutOn (PcS (dC, dI) (tyL cI cC cS) (cPt a cC P ++ cSt b cI M) sz [.ref (a 0), .ref (b 0)] (va_A (cPt a cC P ++ cSt b cI M) sz)) (va_Qi (fun (r : Int32) (u : SR × SR) => (r, u) = f_X2_carryOutOn P M ∧ (LN u.1) ∧ (WF u.2)) (fun u U => va_P (dC, dI) vwCl (cPt a cC u.1 ++ cSt b cI u.2) U.heap ∧ va_D (va_A (cPt a cC P ++ cSt b cI M) sz) (cPt a cC u.1 ++ cSt b cI u.2)) (va_A (cPt a cC P ++ cSt b cI M) sz)) 0 0 (va_A (cPt a cC P ++ cSt b cI M) sz) := by
  refine Met.ofW (cc := cX2_carryOutOn) (maxL := 3) (ret := (some .int)) (by decide) rfl ?_
  intro p e s m args below meth c s₁ B hml hv
  obtain ⟨rfl, hsz, hP, hK, hD0, hN, hT⟩ := hv
  have hx := B.exec
  have hb := B.bytes
  have hr := B.returns
  have hts := atoms_spec (ws := wsX2_carryOutOn) B.pre
  have hown : s.vm.findClass RX2 = some m.cls := findClass_of_methodNamed B.named
  have hlocks := B.notSynchronized
  subst hsz
  obtain ⟨⟨tc, hZc, hTc⟩, ⟨tg, hZg, hTg⟩, ⟨ks, kv, hSk, hSr⟩⟩ := id hT
  have hD := hD0.self (sz := s.heap.size)
  have hA : ∀ q : Nat, s.heap.size ≤ q → (va_A (cPt a cC P ++ cSt b cI M) s.heap.size) q := fun q h => Or.inr h
  have hS : va_S (va_A (cPt a cC P ++ cSt b cI M) s.heap.size) s.heap s.heap [] := va_S.rf
  have hin2 : ∀ w ∈ wsX20, w ∈ wsX2_carryOutOn := fun _ h => List.mem_cons_of_mem _ (List.mem_append_left _ (List.mem_append_left _ (List.mem_append_right _ h)))
  have hl := lv_entry [.ref (a 0), .ref (b 0)] (n := 3) (Nat.le_of_ble_eq_true rfl)
  rw [lg_entry_eq]
  generalize (lg_sl [.ref (a 0), .ref (b 0)] ++ List.replicate (3 - (lg_sl [.ref (a 0), .ref (b 0)]).length) Slot.unset).toArray = ls at hl ⊢
  have hl : lv_has ls 3 [(0, .ref (a 0)), (1, .ref (b 0))] := hl
  obtain ⟨R0, eR⟩ : ∃ z, z = f_X2_carryOutOn P M := ⟨_, rfl⟩
  have hR := eR
  rw [f_X2_carryOutOn] at hR
  refine lv_aload_n hx hb dX2_carryOutOn_0 rfl (lv_at hl 0 rfl) ?_
  refine lv_iconst (v := 0) hx hb dX2_carryOutOn_1 (by decide) ?_
  refine va_put (D := (dC, dI)) (ci := 2) (v := .int 0) (ty := .int) (C := RX2) (T := TX2) (N := 3) hx hb hts hin2 tyX2 tyX2_ok nmX2 hown hK hP hD hS 0 rfl rfl 2 (by decide) (hts (.fieldLink RX2 19 "FeedDesk$Patch" "at" "I") (List.mem_of_getElem? (i := 1) rfl)) (fun _ h9 => h9) rfl (by decide +kernel) rfl rfl (Nat.le_of_ble_eq_true rfl) dX2_carryOutOn_2 (fun H1 locs hP hD hS => ?_)
  have hP : va_P (dC, dI) vwCl (cPt a cC (sU P 1 1 0) ++ cSt b cI M) H1 := hP
  have hD : va_D (va_A (cPt a cC P ++ cSt b cI M) s.heap.size) (cPt a cC (sU P 1 1 0) ++ cSt b cI M) := hD
  obtain ⟨Pn2, ePn2⟩ : ∃ z : SR, z = sU P 1 1 0 := ⟨_, rfl⟩
  rw [sLet_eq, ← ePn2] at hR
  rw [← ePn2] at hP hD
  have hpz3 : WFP Pn2 := by rw [ePn2]; exact wfp_zero hLn
  refine lv_iconst (v := 0) hx hb dX2_carryOutOn_5 (by decide) ?_
  refine lv_istore_n (lv' := [(2, .int 0), (0, .ref (a 0)), (1, .ref (b 0))]) hx hb dX2_carryOutOn_6 rfl hl (by decide) rfl (fun ls hl => ?_)
  have hL_7 : ∀ n_7 : Nat, ∀ (j_7 : Nat), ∀ (x2_7 : Int32) (P_7 : SR) (M_7 : SR), x2_7 = nI j_7 → j_7 ≤ 140 → 140 < j_7 + n_7 → WF M_7 → WFP P_7 → R0 = f_X2_carryOutOn_p7 n_7 x2_7 P_7 M_7 → ∀ (H : Heap) (locs : List Loc) (ls : Array Slot), va_P (dC, dI) vwCl (cPt a cC P_7 ++ cSt b cI M_7) H → va_D (va_A (cPt a cC P ++ cSt b cI M) s.heap.size) (cPt a cC P_7 ++ cSt b cI M_7) → va_S (va_A (cPt a cC P ++ cSt b cI M) s.heap.size) s.heap H locs → lv_has ls 3 [(0, .ref (a 0)), (1, .ref (b 0)), (2, .int x2_7)] → W p l e (headSpec wsX2_carryOutOn rm_X2_carryOutOn).room s m ([.ref (a 0), .ref (b 0)] : List Value).toArray below meth c H locs 0 0 (MQ below (va_Qi (fun (r : Int32) (u : SR × SR) => (r, u) = f_X2_carryOutOn P M ∧ (LN u.1) ∧ (WF u.2)) (fun u U => va_P (dC, dI) vwCl (cPt a cC u.1 ++ cSt b cI u.2) U.heap ∧ va_D (va_A (cPt a cC P ++ cSt b cI M) s.heap.size) (cPt a cC u.1 ++ cSt b cI u.2)) (va_A (cPt a cC P ++ cSt b cI M) s.heap.size)) ([.ref (a 0), .ref (b 0)] : List Value).toArray s 0 0 (va_A (cPt a cC P ++ cSt b cI M) s.heap.size)) (F0 m 7 ls []) := by
    intro n_7
    induction n_7 with
    | zero =>
      intro j_7 x2_7 P_7 M_7 ex2_7 hj0_7 hn_7 hW_7 hp_7
      exact absurd hn_7 (by omega)
    | succ n_7 ih_7 =>
      intro j_7 x2_7 P_7 M_7 ex2_7 hj0_7 hn_7 hW_7 hp_7 hR H locs ls hP hD hS hl
      rw [f_X2_carryOutOn_p7] at hR
      refine lv_iload_n hx hb dX2_carryOutOn_7 rfl (lv_at hl 2 rfl) ?_
      refine lv_sipush (v := 140) hx hb dX2_carryOutOn_8 (by decide) ?_
      refine lv_icmp_ge (tgt := 48) hx hb dX2_carryOutOn_11 (by decide) (fun c4 => ?_) (fun c4 => ?_)
      · rw [if_pos c4] at hR
        refine lv_sipush (v := (-1000)) hx hb dX2_carryOutOn_48 (by decide) ?_
        refine lv_aload_n hx hb dX2_carryOutOn_51 rfl (lv_at hl 0 rfl) ?_
        refine va_get (D := (dC, dI)) (ci := 2) (v := .int (P_7 1 1)) (C := RX2) (T := TX2) (N := 3) hx hb hts hin2 hown hK hP 0 rfl rfl 2 (by decide) (hts (.fieldLink RX2 19 "FeedDesk$Patch" "at" "I") (List.mem_of_getElem? (i := 1) rfl)) (fun _ h9 => h9) rfl dX2_carryOutOn_52 ?_
        refine lv_isub hx hb dX2_carryOutOn_55 ?_
        exact W.iret (v := (-1000) - (P_7 1 1)) hx hb hr (fun t ht hWw => ⟨⟨(-1000) - (P_7 1 1), (P_7, M_7), rfl, ⟨hR.symm.trans eR, (wfp_ln hp_7), hW_7⟩, by rw [ht]; exact hP, hD⟩, hS.F ht⟩) hS.2.2 dX2_carryOutOn_56
      · rw [if_neg c4] at hR
        have hj_7 : j_7 < 140 := lp_ge ex2_7 (by decide +kernel) (by omega) (by omega) c4
        refine lv_aload_n hx hb dX2_carryOutOn_14 rfl (lv_at hl 0 rfl) ?_
        have hPc : va_P (dC, dI) vwCl (cPt a cC P_7) H := hP.sub [0, 1] rfl
        have hDc : va_D (va_A (cPt a cC P ++ cSt b cI M) s.heap.size) (cPt a cC P_7) := hD.sub [0, 1] (by decide) rfl
        have hFc : ∀ q : Nat, va_A (cPt a cC P_7) H.size q → (va_A (cPt a cC P ++ cSt b cI M) s.heap.size) q := va_free hD hS hA [0, 1] rfl
        refine va_callv (va_runV (As := []) (rest := []) ⟨hx, hb, hml, hown, hts⟩ (c_X2_skipSpaces l dC dI cI cC cS a P_7 H.size hp_7) (cwV 0 hts gX2_carryOutOn_X2_skipSpaces rfl rfl rfl (by decide +kernel) ⟨Nat.le_of_ble_eq_true rfl, Nat.le_of_ble_eq_true rfl⟩) (pV (q0 := 0) hK hPc hDc hN rfl rfl) rfl rfl hl.1 rfl (lv_room (Nat.le_of_ble_eq_true rfl)) dX2_carryOutOn_15 ⟨Nat.le_of_ble_eq_true rfl, Nat.le_of_ble_eq_true rfl⟩) hS (fun q _ h => hFc q h) hFc (fun u_5 t_5 H6 locs ht hvm hw hB hz1 hk1 hS => ?_)
        obtain ⟨hw, hens7⟩ := hw
        obtain ⟨hP1, hD1⟩ := hB
        rw [ht] at hP1
        subst hw
        obtain ⟨hP, hD⟩ := va_join (wc := cPt a cC P_7) (wr := [(b 0, .inr (4, [.ref (b 1), .ref (b 2), .ref (b 3), .int (M_7 10 0), .int (M_7 10 1), .int (M_7 10 2), .ref (b 4), .ref (b 5), .ref (b 6), .ref (b 7), .ref (b 8), .int (M_7 10 3), .int (M_7 10 4), .int (M_7 10 5), .int (M_7 10 6), .ref (b 9), .int (M_7 10 7), .ref (b 10)])), (b 1, .inl (cI, 12, .inl (M_7 0))), (b 2, .inl (cI, 16, .inl (M_7 1))), (b 3, .inl (cI, 12, .inl (M_7 2))), (b 4, .inl (cI, 48, .inl (M_7 3))), (b 5, .inl (cI, 4, .inl (M_7 4))), (b 6, .inl (cI, 4, .inl (M_7 5))), (b 7, .inl (cI, 12, .inl (M_7 6))), (b 8, .inl (cI, 4, .inl (M_7 7))), (b 9, .inl (cI, 102, .inl (M_7 8))), (b 10, .inr (0, [.int (M_7 11 0), .int (M_7 11 1), .int (M_7 11 2), .int (M_7 11 3), .ref (b 11)])), (b 11, .inl (cI, 16, .inl (M_7 9)))]) (w1 := cPt a cC (f_X2_skipSpaces P_7)) hP hD [0, 1] [2, 3, 4, 5, 6, 7, 8, 9, 10, 11, 12, 13] rfl rfl (by decide) (by decide) hk1 hFc hP1 hD1
        have hP : va_P (dC, dI) vwCl (cPt a cC (f_X2_skipSpaces P_7) ++ cSt b cI M_7) H6 := hP.sub [12, 13, 0, 1, 2, 3, 4, 5, 6, 7, 8, 9, 10, 11] rfl
        have hD : va_D (va_A (cPt a cC P ++ cSt b cI M) s.heap.size) (cPt a cC (f_X2_skipSpaces P_7) ++ cSt b cI M_7) := hD.sub [12, 13, 0, 1, 2, 3, 4, 5, 6, 7, 8, 9, 10, 11] (by decide) rfl
        obtain ⟨Pn8, ePn8⟩ : ∃ z : SR, z = (f_X2_skipSpaces P_7) := ⟨_, rfl⟩
        rw [sLet_eq, ← ePn8] at hR
        rw [← ePn8] at hP hD
        have hq9 : WFP Pn8 := by rw [ePn8]; exact hens7
        refine lv_aload_n hx hb dX2_carryOutOn_18 rfl (lv_at hl 0 rfl) ?_
        refine va_get (D := (dC, dI)) (ci := 2) (v := .int (Pn8 1 1)) (C := RX2) (T := TX2) (N := 3) hx hb hts hin2 hown hK hP 0 rfl rfl 2 (by decide) (hts (.fieldLink RX2 19 "FeedDesk$Patch" "at" "I") (List.mem_of_getElem? (i := 1) rfl)) (fun _ h9 => h9) rfl dX2_carryOutOn_19 ?_
        refine lv_aload_n hx hb dX2_carryOutOn_22 rfl (lv_at hl 0 rfl) ?_
        refine va_get (D := (dC, dI)) (ci := 2) (v := .int (Pn8 1 0)) (C := RX2) (T := TX2) (N := 3) hx hb hts hin2 hown hK hP 0 rfl rfl 1 (by decide) (hts (.fieldLink RX2 15 "FeedDesk$Patch" "length" "I") (List.mem_of_getElem? (i := 2) rfl)) (fun _ h9 => h9) rfl dX2_carryOutOn_23 ?_
        refine lv_icmp_lt (tgt := 31) hx hb dX2_carryOutOn_26 (by decide) (fun c10 => ?_) (fun c10 => ?_)
        · rw [if_pos c10] at hR
          refine lv_aload_n hx hb dX2_carryOutOn_31 rfl (lv_at hl 0 rfl) ?_
          refine lv_aload_n hx hb dX2_carryOutOn_32 rfl (lv_at hl 1 rfl) ?_
          have hPc : va_P (dC, dI) vwCl (cPt a cC Pn8 ++ cSt b cI M_7) H6 := hP.sub [0, 1, 2, 3, 4, 5, 6, 7, 8, 9, 10, 11, 12, 13] rfl
          have hDc : va_D (va_A (cPt a cC P ++ cSt b cI M) s.heap.size) (cPt a cC Pn8 ++ cSt b cI M_7) := hD.sub [0, 1, 2, 3, 4, 5, 6, 7, 8, 9, 10, 11, 12, 13] (by decide) rfl
          have hFc : ∀ q : Nat, va_A (cPt a cC Pn8 ++ cSt b cI M_7) H6.size q → (va_A (cPt a cC P ++ cSt b cI M) s.heap.size) q := va_free hD hS hA [0, 1, 2, 3, 4, 5, 6, 7, 8, 9, 10, 11, 12, 13] rfl
          refine va_calli (va_runV (As := [.ref (b 0)]) (rest := []) ⟨hx, hb, hml, hown, hts⟩ (c_X2_readItem l dC dI cI cC cS a b Pn8 M_7 H6.size hq9 hW_7) (cwV 1 hts gX2_carryOutOn_X2_readItem rfl rfl rfl (by decide +kernel) ⟨Nat.le_of_ble_eq_true rfl, Nat.le_of_ble_eq_true rfl⟩) (pVS (q0 := 0) hK hPc hDc hN hT hS hFc rfl rfl) rfl rfl hl.1 rfl (lv_room (Nat.le_of_ble_eq_true rfl)) dX2_carryOutOn_33 ⟨Nat.le_of_ble_eq_true rfl, Nat.le_of_ble_eq_true rfl⟩) hS (fun q _ h => hFc q h) hFc (fun r_11 u_11 t_11 H12 locs ht hvm hw hB hz1 hk1 hS => ?_)
          obtain ⟨hw, hens13, hens14, hens15⟩ := hw
          obtain ⟨hP1, hD1⟩ := hB
          rw [ht] at hP1
          have hw1 : r_11 = (f_X2_readItem Pn8 M_7).1 := congrArg Prod.fst hw
          have hw2 : u_11 = (f_X2_readItem Pn8 M_7).2 := congrArg Prod.snd hw
          clear hw
          subst hw1
          subst hw2
          obtain ⟨hP, hD⟩ := va_join (wc := cPt a cC Pn8 ++ cSt b cI M_7) (wr := []) (w1 := cPt a cC ((f_X2_readItem Pn8 M_7).2.1) ++ cSt b cI ((f_X2_readItem Pn8 M_7).2.2)) hP hD [0, 1, 2, 3, 4, 5, 6, 7, 8, 9, 10, 11, 12, 13] [] rfl rfl (by decide) (by decide) hk1 hFc hP1 hD1
          have hP : va_P (dC, dI) vwCl (cPt a cC ((f_X2_readItem Pn8 M_7).2.1) ++ cSt b cI ((f_X2_readItem Pn8 M_7).2.2)) H12 := hP.sub [0, 1, 2, 3, 4, 5, 6, 7, 8, 9, 10, 11, 12, 13] rfl
          have hD : va_D (va_A (cPt a cC P ++ cSt b cI M) s.heap.size) (cPt a cC ((f_X2_readItem Pn8 M_7).2.1) ++ cSt b cI ((f_X2_readItem Pn8 M_7).2.2)) := hD.sub [0, 1, 2, 3, 4, 5, 6, 7, 8, 9, 10, 11, 12, 13] (by decide) rfl
          obtain ⟨Pn16, ePn16⟩ : ∃ z : SR, z = (f_X2_readItem Pn8 M_7).2.1 := ⟨_, rfl⟩
          rw [sLet_eq, ← ePn16] at hR
          rw [← ePn16] at hP hD
          have hq17 : WFP Pn16 := by rw [ePn16]; exact hens13
          obtain ⟨Mn18, eMn18⟩ : ∃ z : SR, z = (f_X2_readItem Pn8 M_7).2.2 := ⟨_, rfl⟩
          rw [sLet_eq, ← eMn18] at hR
          rw [← eMn18] at hP hD
          have hW19 : WF Mn18 := by rw [eMn18]; exact hens14
          refine lv_if_ne (tgt := 42) hx hb dX2_carryOutOn_36 (by decide) (fun c20 => ?_) (fun c20 => ?_)
          · rw [if_neg c20] at hR
            refine lv_iinc (v := x2_7 + 1) (lv' := [(2, .int (x2_7 + 1)), (0, .ref (a 0)), (1, .ref (b 0))]) hx hb dX2_carryOutOn_42 hl (k := 2) rfl rfl (by decide) rfl (fun ls hl => ?_)
            refine lv_goto (tgt := 7) hx hb dX2_carryOutOn_45 (by decide) ?_
            exact ih_7 (j_7 + 1) (x2_7 + 1) Pn16 Mn18 (by rw [ex2_7, nI_1]) (by omega) (by omega) hW19 hq17 hR _ _ _ hP hD hS (lv_sub hl [1, 2, 0] rfl)
          · rw [if_pos c20] at hR
            refine lv_goto (tgt := 48) hx hb dX2_carryOutOn_39 (by decide) ?_
            refine lv_sipush (v := (-1000)) hx hb dX2_carryOutOn_48 (by decide) ?_
            refine lv_aload_n hx hb dX2_carryOutOn_51 rfl (lv_at hl 0 rfl) ?_
            refine va_get (D := (dC, dI)) (ci := 2) (v := .int (Pn16 1 1)) (C := RX2) (T := TX2) (N := 3) hx hb hts hin2 hown hK hP 0 rfl rfl 2 (by decide) (hts (.fieldLink RX2 19 "FeedDesk$Patch" "at" "I") (List.mem_of_getElem? (i := 1) rfl)) (fun _ h9 => h9) rfl dX2_carryOutOn_52 ?_
            refine lv_isub hx hb dX2_carryOutOn_55 ?_
            exact W.iret (v := (-1000) - (Pn16 1 1)) hx hb hr (fun t ht hWw => ⟨⟨(-1000) - (Pn16 1 1), (Pn16, Mn18), rfl, ⟨hR.symm.trans eR, (wfp_ln hq17), hW19⟩, by rw [ht]; exact hP, hD⟩, hS.F ht⟩) hS.2.2 dX2_carryOutOn_56
        · rw [if_neg c10] at hR
          refine lv_iload_n hx hb dX2_carryOutOn_29 rfl (lv_at hl 2 rfl) ?_
          exact W.iret (v := x2_7) hx hb hr (fun t ht hWw => ⟨⟨x2_7, (Pn8, M_7), rfl, ⟨hR.symm.trans eR, (wfp_ln hq9), hW_7⟩, by rw [ht]; exact hP, hD⟩, hS.F ht⟩) hS.2.2 dX2_carryOutOn_30
  exact hL_7 141 0 0 Pn2 M (by decide +kernel) (by decide) (by decide) hW hpz3 hR _ _ _ hP hD hS (lv_sub hl [1, 2, 0] rfl)
