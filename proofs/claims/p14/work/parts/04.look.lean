abbrev rm_X4_channelProperty : Room := { frames := 1, cells := 0, slots := 0, locals := 21 }
def f_X4_channelProperty (M : SR) (p1 : Int32) (p2 : Int32) : Int32 := (if p2 = 0 then M 0 p1.toNatClampNeg else (if p2 = 1 then M 1 p1.toNatClampNeg else (if p2 = 2 then (if (f_X5_hasBit (M 10 0) p1) = 0 then 0 else 1) else (if p2 = 3 then (if (f_X5_hasBit (M 10 1) p1) = 0 then 0 else 1) else M 2 p1.toNatClampNeg))))
set_option maxHeartbeats 4000000 in
set_option maxRecDepth 100000 in
theorem c_X4_channelProperty (l : Launch) (dC : Nat → ClassId) (dI : Nat → Nat → Nat) (cI cC cS : ClassId) (a : Nat → Nat) (M : SR) (sz : Nat) (p1 : Int32) (p2 : Int32) (h1 : vp_in p1 12) : Met l yX4_channelProperty wsX4_channelProperty rm_X4_channelProperty (PcG (dC, dI) (tyL cI cC cS) (cSt a cI M) sz [.ref (a 0), .int p1, .int p2]) (va_Qi (fun (r : Int32) (_ : Unit) => r = f_X4_channelProperty M p1 p2) (fun _ _ => True) (va_A [] sz)) 0 0 (va_A [] sz) := by
  refine Met.ofW (cc := cX4_channelProperty) (maxL := 3) (ret := (some .int)) (by decide) rfl ?_
  intro p e s m args below meth c s₁ B hml hv
  obtain ⟨rfl, hsz, hP, hK, hD0, hN⟩ := hv
  have hx := B.exec
  have hb := B.bytes
  have hr := B.returns
  have hts := atoms_spec (ws := wsX4_channelProperty) B.pre
  have hown : s.vm.findClass RX4 = some m.cls := findClass_of_methodNamed B.named
  have hlocks := B.notSynchronized
  subst hsz
  have hA : ∀ q : Nat, s.heap.size ≤ q → (va_A [] s.heap.size) q := fun q h => Or.inr h
  have hS : va_S (va_A [] s.heap.size) s.heap s.heap [] := va_S.rf
  have hin4 : ∀ w ∈ wsX40, w ∈ wsX4_channelProperty := fun _ h => List.mem_cons_of_mem _ (List.mem_append_right _ h)
  have hl := lv_entry [.ref (a 0), .int p1, .int p2] (n := 3) (Nat.le_of_ble_eq_true rfl)
  rw [lg_entry_eq]
  generalize (lg_sl [.ref (a 0), .int p1, .int p2] ++ List.replicate (3 - (lg_sl [.ref (a 0), .int p1, .int p2]).length) Slot.unset).toArray = ls at hl ⊢
  have hl : lv_has ls 3 [(0, .ref (a 0)), (1, .int p1), (2, .int p2)] := hl
  obtain ⟨R0, eR⟩ : ∃ z, z = f_X4_channelProperty M p1 p2 := ⟨_, rfl⟩
  have hR := eR
  rw [f_X4_channelProperty] at hR
  refine lv_iload_n hx hb dX4_channelProperty_0 rfl (lv_at hl 2 rfl) ?_
  rcases Decidable.em (p2 = 0) with c1 | c1
  · rw [if_pos c1] at hR
    refine lv_tableIn (tgt := 32) hx hb dX4_channelProperty_1 (by rw [c1]; decide) (by rw [c1]; decide) (by rw [c1]; rfl) (by decide) ?_
    refine lv_aload_n hx hb dX4_channelProperty_32 rfl (lv_at hl 0 rfl) ?_
    refine va_get (D := (dC, dI)) (ci := 4) (v := .ref (a 1)) (C := RX4) (T := TX4) (N := 18) hx hb hts hin4 hown hK hP 0 rfl rfl 0 (by decide) (hts (.fieldLink RX4 9 "FeedDesk$State" "input" "[I") (List.mem_of_getElem? (i := 1) rfl)) (fun _ h9 => h9) rfl dX4_channelProperty_33 ?_
    refine lv_iload_n hx hb dX4_channelProperty_36 rfl (lv_at hl 1 rfl) ?_
    refine va_iald (f := M 0) hx hb hK hP 1 0 rfl rfl h1 dX4_channelProperty_37 ?_
    exact W.iret (v := M 0 p1.toNatClampNeg) hx hb hr (fun t ht hWw => ⟨⟨M 0 p1.toNatClampNeg, (), rfl, hR.symm.trans eR, trivial⟩, hS.F ht⟩) hS.2.2 dX4_channelProperty_38
  · rw [if_neg c1] at hR
    rcases Decidable.em (p2 = 1) with c2 | c2
    · rw [if_pos c2] at hR
      refine lv_tableIn (tgt := 39) hx hb dX4_channelProperty_1 (by rw [c2]; decide) (by rw [c2]; decide) (by rw [c2]; rfl) (by decide) ?_
      refine lv_aload_n hx hb dX4_channelProperty_39 rfl (lv_at hl 0 rfl) ?_
      refine va_get (D := (dC, dI)) (ci := 4) (v := .ref (a 2)) (C := RX4) (T := TX4) (N := 18) hx hb hts hin4 hown hK hP 0 rfl rfl 1 (by decide) (hts (.fieldLink RX4 15 "FeedDesk$State" "sliders" "[I") (List.mem_of_getElem? (i := 2) rfl)) (fun _ h9 => h9) rfl dX4_channelProperty_40 ?_
      refine lv_iload_n hx hb dX4_channelProperty_43 rfl (lv_at hl 1 rfl) ?_
      refine va_iald (f := M 1) hx hb hK hP 2 0 rfl rfl (vp_mono h1 (by decide)) dX4_channelProperty_44 ?_
      exact W.iret (v := M 1 p1.toNatClampNeg) hx hb hr (fun t ht hWw => ⟨⟨M 1 p1.toNatClampNeg, (), rfl, hR.symm.trans eR, trivial⟩, hS.F ht⟩) hS.2.2 dX4_channelProperty_45
    · rw [if_neg c2] at hR
      rcases Decidable.em (p2 = 2) with c3 | c3
      · rw [if_pos c3] at hR
        refine lv_tableIn (tgt := 46) hx hb dX4_channelProperty_1 (by rw [c3]; decide) (by rw [c3]; decide) (by rw [c3]; rfl) (by decide) ?_
        refine lv_aload_n hx hb dX4_channelProperty_46 rfl (lv_at hl 0 rfl) ?_
        refine va_get (D := (dC, dI)) (ci := 4) (v := .int (M 10 0)) (C := RX4) (T := TX4) (N := 18) hx hb hts hin4 hown hK hP 0 rfl rfl 3 (by decide) (hts (.fieldLink RX4 52 "FeedDesk$State" "muted" "I") (List.mem_of_getElem? (i := 3) rfl)) (fun _ h9 => h9) rfl dX4_channelProperty_47 ?_
        refine lv_iload_n hx hb dX4_channelProperty_50 rfl (lv_at hl 1 rfl) ?_
        have hFc : ∀ q : Nat, va_A [] s.heap.size q → (va_A [] s.heap.size) q := roF hS hA
        refine va_calli (va_runSN (As := [.int (M 10 0), .int p1]) (rest := []) ⟨hx, hb, hml, hown, hts⟩ (c_X5_hasBit l dC dI cI cC cS s.heap.size (M 10 0) p1) ⟨va_cnB 2 hts gX4_channelProperty_X5_hasBit_n81 rfl rfl rfl (hN.at 2 rfl) (hts (.initialized RX5) (List.mem_of_getElem? (i := 7) rfl)) (by decide +kernel) ⟨Nat.le_of_ble_eq_true rfl, Nat.le_of_ble_eq_true rfl⟩, (hts (.static yX5_hasBit) (List.mem_of_getElem? (i := 6) rfl)), trivial⟩ (pS hK (va_P_nil) (va_D_nil) hN) rfl rfl hl.1 rfl (lv_room (Nat.le_of_ble_eq_true rfl)) dX4_channelProperty_51 ⟨Nat.le_of_ble_eq_true rfl, Nat.le_of_ble_eq_true rfl⟩) hS (fun q _ h => hFc q h) hFc (fun r_4 u_4 t_4 H5 locs ht hvm hw hB hz1 hk1 hS => ?_)
        obtain ⟨hw, hre6⟩ := hw
        subst hw
        have hP := ro_keep hP hk1
        refine lv_if_eq (tgt := 61) hx hb dX4_channelProperty_54 (by decide) (fun c7 => ?_) (fun c7 => ?_)
        · rw [if_pos c7] at hR
          refine lv_iconst (v := 0) hx hb dX4_channelProperty_61 (by decide) ?_
          exact W.iret (v := 0) hx hb hr (fun t ht hWw => ⟨⟨0, (), rfl, hR.symm.trans eR, trivial⟩, hS.F ht⟩) hS.2.2 dX4_channelProperty_62
        · rw [if_neg c7] at hR
          refine lv_iconst (v := 1) hx hb dX4_channelProperty_57 (by decide) ?_
          refine lv_goto (tgt := 62) hx hb dX4_channelProperty_58 (by decide) ?_
          exact W.iret (v := 1) hx hb hr (fun t ht hWw => ⟨⟨1, (), rfl, hR.symm.trans eR, trivial⟩, hS.F ht⟩) hS.2.2 dX4_channelProperty_62
      · rw [if_neg c3] at hR
        rcases Decidable.em (p2 = 3) with c8 | c8
        · rw [if_pos c8] at hR
          refine lv_tableIn (tgt := 63) hx hb dX4_channelProperty_1 (by rw [c8]; decide) (by rw [c8]; decide) (by rw [c8]; rfl) (by decide) ?_
          refine lv_aload_n hx hb dX4_channelProperty_63 rfl (lv_at hl 0 rfl) ?_
          refine va_get (D := (dC, dI)) (ci := 4) (v := .int (M 10 1)) (C := RX4) (T := TX4) (N := 18) hx hb hts hin4 hown hK hP 0 rfl rfl 4 (by decide) (hts (.fieldLink RX4 56 "FeedDesk$State" "safe" "I") (List.mem_of_getElem? (i := 4) rfl)) (fun _ h9 => h9) rfl dX4_channelProperty_64 ?_
          refine lv_iload_n hx hb dX4_channelProperty_67 rfl (lv_at hl 1 rfl) ?_
          have hFc : ∀ q : Nat, va_A [] s.heap.size q → (va_A [] s.heap.size) q := roF hS hA
          refine va_calli (va_runSN (As := [.int (M 10 1), .int p1]) (rest := []) ⟨hx, hb, hml, hown, hts⟩ (c_X5_hasBit l dC dI cI cC cS s.heap.size (M 10 1) p1) ⟨va_cnB 2 hts gX4_channelProperty_X5_hasBit_n81 rfl rfl rfl (hN.at 2 rfl) (hts (.initialized RX5) (List.mem_of_getElem? (i := 7) rfl)) (by decide +kernel) ⟨Nat.le_of_ble_eq_true rfl, Nat.le_of_ble_eq_true rfl⟩, (hts (.static yX5_hasBit) (List.mem_of_getElem? (i := 6) rfl)), trivial⟩ (pS hK (va_P_nil) (va_D_nil) hN) rfl rfl hl.1 rfl (lv_room (Nat.le_of_ble_eq_true rfl)) dX4_channelProperty_68 ⟨Nat.le_of_ble_eq_true rfl, Nat.le_of_ble_eq_true rfl⟩) hS (fun q _ h => hFc q h) hFc (fun r_9 u_9 t_9 H10 locs ht hvm hw hB hz1 hk1 hS => ?_)
          obtain ⟨hw, hre11⟩ := hw
          subst hw
          have hP := ro_keep hP hk1
          refine lv_if_eq (tgt := 78) hx hb dX4_channelProperty_71 (by decide) (fun c12 => ?_) (fun c12 => ?_)
          · rw [if_pos c12] at hR
            refine lv_iconst (v := 0) hx hb dX4_channelProperty_78 (by decide) ?_
            exact W.iret (v := 0) hx hb hr (fun t ht hWw => ⟨⟨0, (), rfl, hR.symm.trans eR, trivial⟩, hS.F ht⟩) hS.2.2 dX4_channelProperty_79
          · rw [if_neg c12] at hR
            refine lv_iconst (v := 1) hx hb dX4_channelProperty_74 (by decide) ?_
            refine lv_goto (tgt := 79) hx hb dX4_channelProperty_75 (by decide) ?_
            exact W.iret (v := 1) hx hb hr (fun t ht hWw => ⟨⟨1, (), rfl, hR.symm.trans eR, trivial⟩, hS.F ht⟩) hS.2.2 dX4_channelProperty_79
        · rw [if_neg c8] at hR
          have tz0 : ¬ p2.toInt = 0 := fun h => c1 (Int32.toInt_inj.mp (h.trans (by decide)))
          have tz1 : ¬ p2.toInt = 1 := fun h => c2 (Int32.toInt_inj.mp (h.trans (by decide)))
          have tz2 : ¬ p2.toInt = 2 := fun h => c3 (Int32.toInt_inj.mp (h.trans (by decide)))
          have tz3 : ¬ p2.toInt = 3 := fun h => c8 (Int32.toInt_inj.mp (h.trans (by decide)))
          refine lv_tableOut (tgt := 80) hx hb dX4_channelProperty_1 (by omega) (by decide) ?_
          refine lv_aload_n hx hb dX4_channelProperty_80 rfl (lv_at hl 0 rfl) ?_
          refine va_get (D := (dC, dI)) (ci := 4) (v := .ref (a 3)) (C := RX4) (T := TX4) (N := 18) hx hb hts hin4 hown hK hP 0 rfl rfl 2 (by decide) (hts (.fieldLink RX4 18 "FeedDesk$State" "groups" "[I") (List.mem_of_getElem? (i := 5) rfl)) (fun _ h9 => h9) rfl dX4_channelProperty_81 ?_
          refine lv_iload_n hx hb dX4_channelProperty_84 rfl (lv_at hl 1 rfl) ?_
          refine va_iald (f := M 2) hx hb hK hP 3 0 rfl rfl h1 dX4_channelProperty_85 ?_
          exact W.iret (v := M 2 p1.toNatClampNeg) hx hb hr (fun t ht hWw => ⟨⟨M 2 p1.toNatClampNeg, (), rfl, hR.symm.trans eR, trivial⟩, hS.F ht⟩) hS.2.2 dX4_channelProperty_86
abbrev rm_X4_groupProperty : Room := { frames := 1, cells := 0, slots := 0, locals := 21 }
def f_X4_groupProperty (M : SR) (p1 : Int32) (p2 : Int32) : Int32 := (if p2 = 0 then M 1 (12 + p1).toNatClampNeg else (if (f_X5_hasBit (M 10 2) p1) = 0 then 0 else 1))
theorem ix_0 : ∀ q0 : Nat, q0 < 4 → vp_okB (12 + (nI q0)) 16 = true := by decide +kernel
set_option maxHeartbeats 4000000 in
set_option maxRecDepth 100000 in
theorem c_X4_groupProperty (l : Launch) (dC : Nat → ClassId) (dI : Nat → Nat → Nat) (cI cC cS : ClassId) (a : Nat → Nat) (M : SR) (sz : Nat) (p1 : Int32) (p2 : Int32) (h1 : vp_in p1 4) : Met l yX4_groupProperty wsX4_groupProperty rm_X4_groupProperty (PcG (dC, dI) (tyL cI cC cS) (cSt a cI M) sz [.ref (a 0), .int p1, .int p2]) (va_Qi (fun (r : Int32) (_ : Unit) => r = f_X4_groupProperty M p1 p2) (fun _ _ => True) (va_A [] sz)) 0 0 (va_A [] sz) := by
  refine Met.ofW (cc := cX4_groupProperty) (maxL := 3) (ret := (some .int)) (by decide) rfl ?_
  intro p e s m args below meth c s₁ B hml hv
  obtain ⟨rfl, hsz, hP, hK, hD0, hN⟩ := hv
  have hx := B.exec
  have hb := B.bytes
  have hr := B.returns
  have hts := atoms_spec (ws := wsX4_groupProperty) B.pre
  have hown : s.vm.findClass RX4 = some m.cls := findClass_of_methodNamed B.named
  have hlocks := B.notSynchronized
  subst hsz
  have hA : ∀ q : Nat, s.heap.size ≤ q → (va_A [] s.heap.size) q := fun q h => Or.inr h
  have hS : va_S (va_A [] s.heap.size) s.heap s.heap [] := va_S.rf
  have hin4 : ∀ w ∈ wsX40, w ∈ wsX4_groupProperty := fun _ h => List.mem_cons_of_mem _ (List.mem_append_right _ h)
  obtain ⟨ip1, hip1, ep1⟩ := vp_in_of h1 (by decide)
  have hl := lv_entry [.ref (a 0), .int p1, .int p2] (n := 3) (Nat.le_of_ble_eq_true rfl)
  rw [lg_entry_eq]
  generalize (lg_sl [.ref (a 0), .int p1, .int p2] ++ List.replicate (3 - (lg_sl [.ref (a 0), .int p1, .int p2]).length) Slot.unset).toArray = ls at hl ⊢
  have hl : lv_has ls 3 [(0, .ref (a 0)), (1, .int p1), (2, .int p2)] := hl
  obtain ⟨R0, eR⟩ : ∃ z, z = f_X4_groupProperty M p1 p2 := ⟨_, rfl⟩
  have hR := eR
  rw [f_X4_groupProperty] at hR
  refine lv_iload_n hx hb dX4_groupProperty_0 rfl (lv_at hl 2 rfl) ?_
  refine lv_if_ne (tgt := 14) hx hb dX4_groupProperty_1 (by decide) (fun c1 => ?_) (fun c1 => ?_)
  · rw [if_neg c1] at hR
    refine lv_aload_n hx hb dX4_groupProperty_14 rfl (lv_at hl 0 rfl) ?_
    refine va_get (D := (dC, dI)) (ci := 4) (v := .int (M 10 2)) (C := RX4) (T := TX4) (N := 18) hx hb hts hin4 hown hK hP 0 rfl rfl 5 (by decide) (hts (.fieldLink RX4 59 "FeedDesk$State" "soloed" "I") (List.mem_of_getElem? (i := 2) rfl)) (fun _ h9 => h9) rfl dX4_groupProperty_15 ?_
    refine lv_iload_n hx hb dX4_groupProperty_18 rfl (lv_at hl 1 rfl) ?_
    have hFc : ∀ q : Nat, va_A [] s.heap.size q → (va_A [] s.heap.size) q := roF hS hA
    refine va_calli (va_runSN (As := [.int (M 10 2), .int p1]) (rest := []) ⟨hx, hb, hml, hown, hts⟩ (c_X5_hasBit l dC dI cI cC cS s.heap.size (M 10 2) p1) ⟨va_cnB 2 hts gX4_groupProperty_X5_hasBit_n81 rfl rfl rfl (hN.at 2 rfl) (hts (.initialized RX5) (List.mem_of_getElem? (i := 4) rfl)) (by decide +kernel) ⟨Nat.le_of_ble_eq_true rfl, Nat.le_of_ble_eq_true rfl⟩, (hts (.static yX5_hasBit) (List.mem_of_getElem? (i := 3) rfl)), trivial⟩ (pS hK (va_P_nil) (va_D_nil) hN) rfl rfl hl.1 rfl (lv_room (Nat.le_of_ble_eq_true rfl)) dX4_groupProperty_19 ⟨Nat.le_of_ble_eq_true rfl, Nat.le_of_ble_eq_true rfl⟩) hS (fun q _ h => hFc q h) hFc (fun r_2 u_2 t_2 H3 locs ht hvm hw hB hz1 hk1 hS => ?_)
    obtain ⟨hw, hre4⟩ := hw
    subst hw
    have hP := ro_keep hP hk1
    refine lv_if_eq (tgt := 29) hx hb dX4_groupProperty_22 (by decide) (fun c5 => ?_) (fun c5 => ?_)
    · rw [if_pos c5] at hR
      refine lv_iconst (v := 0) hx hb dX4_groupProperty_29 (by decide) ?_
      exact W.iret (v := 0) hx hb hr (fun t ht hWw => ⟨⟨0, (), rfl, hR.symm.trans eR, trivial⟩, hS.F ht⟩) hS.2.2 dX4_groupProperty_30
    · rw [if_neg c5] at hR
      refine lv_iconst (v := 1) hx hb dX4_groupProperty_25 (by decide) ?_
      refine lv_goto (tgt := 30) hx hb dX4_groupProperty_26 (by decide) ?_
      exact W.iret (v := 1) hx hb hr (fun t ht hWw => ⟨⟨1, (), rfl, hR.symm.trans eR, trivial⟩, hS.F ht⟩) hS.2.2 dX4_groupProperty_30
  · rw [if_pos c1] at hR
    refine lv_aload_n hx hb dX4_groupProperty_4 rfl (lv_at hl 0 rfl) ?_
    refine va_get (D := (dC, dI)) (ci := 4) (v := .ref (a 2)) (C := RX4) (T := TX4) (N := 18) hx hb hts hin4 hown hK hP 0 rfl rfl 1 (by decide) (hts (.fieldLink RX4 15 "FeedDesk$State" "sliders" "[I") (List.mem_of_getElem? (i := 1) rfl)) (fun _ h9 => h9) rfl dX4_groupProperty_5 ?_
    refine lv_bipush (v := 12) hx hb dX4_groupProperty_8 (by decide) ?_
    refine lv_iload_n hx hb dX4_groupProperty_10 rfl (lv_at hl 1 rfl) ?_
    refine lv_iadd hx hb dX4_groupProperty_11 ?_
    refine va_iald (f := M 1) hx hb hK hP 2 0 rfl rfl (by rw [ep1]; exact vp_of_B (ix_0 ip1 hip1)) dX4_groupProperty_12 ?_
    exact W.iret (v := M 1 (12 + p1).toNatClampNeg) hx hb hr (fun t ht hWw => ⟨⟨M 1 (12 + p1).toNatClampNeg, (), rfl, hR.symm.trans eR, trivial⟩, hS.F ht⟩) hS.2.2 dX4_groupProperty_13
abbrev rm_X4_membersOf : Room := { frames := 1, cells := 0, slots := 0, locals := 21 }
def f_X4_membersOf_p4 (M : SR) (p1 : Int32)  : Nat → Int32 → Int32 → Int32
  | 0, _, _ => 0
  | n_4 + 1, x2_4, x3_4 => (if 12 ≤ x3_4 then x2_4 else (if (f_X5_hasBit (M 2 x3_4.toNatClampNeg) p1) = 0 then (f_X4_membersOf_p4 M p1 n_4) x2_4 (x3_4 + 1) else (f_X4_membersOf_p4 M p1 n_4) (x2_4 + 1) (x3_4 + 1)))
def f_X4_membersOf (M : SR) (p1 : Int32) : Int32 := f_X4_membersOf_p4 M p1 13 0 0
theorem ix_1 : ∀ q0 : Nat, q0 < 12 → vp_okB ((nI q0)) 12 = true := by decide +kernel
set_option maxHeartbeats 4000000 in
set_option maxRecDepth 100000 in
theorem c_X4_membersOf (l : Launch) (dC : Nat → ClassId) (dI : Nat → Nat → Nat) (cI cC cS : ClassId) (a : Nat → Nat) (M : SR) (sz : Nat) (p1 : Int32)  : Met l yX4_membersOf wsX4_membersOf rm_X4_membersOf (PcG (dC, dI) (tyL cI cC cS) (cSt a cI M) sz [.ref (a 0), .int p1]) (va_Qi (fun (r : Int32) (_ : Unit) => r = f_X4_membersOf M p1) (fun _ _ => True) (va_A [] sz)) 0 0 (va_A [] sz) := by
  refine Met.ofW (cc := cX4_membersOf) (maxL := 4) (ret := (some .int)) (by decide) rfl ?_
  intro p e s m args below meth c s₁ B hml hv
  obtain ⟨rfl, hsz, hP, hK, hD0, hN⟩ := hv
  have hx := B.exec
  have hb := B.bytes
  have hr := B.returns
  have hts := atoms_spec (ws := wsX4_membersOf) B.pre
  have hown : s.vm.findClass RX4 = some m.cls := findClass_of_methodNamed B.named
  have hlocks := B.notSynchronized
  subst hsz
  have hA : ∀ q : Nat, s.heap.size ≤ q → (va_A [] s.heap.size) q := fun q h => Or.inr h
  have hS : va_S (va_A [] s.heap.size) s.heap s.heap [] := va_S.rf
  have hin4 : ∀ w ∈ wsX40, w ∈ wsX4_membersOf := fun _ h => List.mem_cons_of_mem _ (List.mem_append_right _ h)
  have hl := lv_entry [.ref (a 0), .int p1] (n := 4) (Nat.le_of_ble_eq_true rfl)
  rw [lg_entry_eq]
  generalize (lg_sl [.ref (a 0), .int p1] ++ List.replicate (4 - (lg_sl [.ref (a 0), .int p1]).length) Slot.unset).toArray = ls at hl ⊢
  have hl : lv_has ls 4 [(0, .ref (a 0)), (1, .int p1)] := hl
  obtain ⟨R0, eR⟩ : ∃ z, z = f_X4_membersOf M p1 := ⟨_, rfl⟩
  have hR := eR
  rw [f_X4_membersOf] at hR
  refine lv_iconst (v := 0) hx hb dX4_membersOf_0 (by decide) ?_
  refine lv_istore_n (lv' := [(2, .int 0), (0, .ref (a 0)), (1, .int p1)]) hx hb dX4_membersOf_1 rfl hl (by decide) rfl (fun ls hl => ?_)
  refine lv_iconst (v := 0) hx hb dX4_membersOf_2 (by decide) ?_
  refine lv_istore_n (lv' := [(3, .int 0), (2, .int 0), (0, .ref (a 0)), (1, .int p1)]) hx hb dX4_membersOf_3 rfl hl (by decide) rfl (fun ls hl => ?_)
  have hL_4 : ∀ n_4 : Nat, ∀ (j_4 : Nat), ∀ (x2_4 : Int32) (x3_4 : Int32) , x3_4 = nI j_4 → j_4 ≤ 12 → 12 < j_4 + n_4 → R0 = f_X4_membersOf_p4 M p1 n_4 x2_4 x3_4 → ∀ (H : Heap) (locs : List Loc) (ls : Array Slot), va_P (dC, dI) vwCl (cSt a cI M) H → va_S (va_A [] s.heap.size) s.heap H locs → lv_has ls 4 [(0, .ref (a 0)), (1, .int p1), (2, .int x2_4), (3, .int x3_4)] → W p l e (headSpec wsX4_membersOf rm_X4_membersOf).room s m ([.ref (a 0), .int p1] : List Value).toArray below meth c H locs 0 0 (MQ below (va_Qi (fun (r : Int32) (_ : Unit) => r = f_X4_membersOf M p1) (fun _ _ => True) (va_A [] s.heap.size)) ([.ref (a 0), .int p1] : List Value).toArray s 0 0 (va_A [] s.heap.size)) (F0 m 4 ls []) := by
    intro n_4
    induction n_4 with
    | zero =>
      intro j_4 x2_4 x3_4 ex3_4 hj0_4 hn_4
      exact absurd hn_4 (by omega)
    | succ n_4 ih_4 =>
      intro j_4 x2_4 x3_4 ex3_4 hj0_4 hn_4 hR H locs ls hP hS hl
      rw [f_X4_membersOf_p4] at hR
      refine lv_iload_n hx hb dX4_membersOf_4 rfl (lv_at hl 3 rfl) ?_
      refine lv_bipush (v := 12) hx hb dX4_membersOf_5 (by decide) ?_
      refine lv_icmp_ge (tgt := 32) hx hb dX4_membersOf_7 (by decide) (fun c1 => ?_) (fun c1 => ?_)
      · rw [if_pos c1] at hR
        refine lv_iload_n hx hb dX4_membersOf_32 rfl (lv_at hl 2 rfl) ?_
        exact W.iret (v := x2_4) hx hb hr (fun t ht hWw => ⟨⟨x2_4, (), rfl, hR.symm.trans eR, trivial⟩, hS.F ht⟩) hS.2.2 dX4_membersOf_33
      · rw [if_neg c1] at hR
        have hj_4 : j_4 < 12 := lp_ge ex3_4 (by decide +kernel) (by omega) (by omega) c1
        refine lv_aload_n hx hb dX4_membersOf_10 rfl (lv_at hl 0 rfl) ?_
        refine va_get (D := (dC, dI)) (ci := 4) (v := .ref (a 3)) (C := RX4) (T := TX4) (N := 18) hx hb hts hin4 hown hK hP 0 rfl rfl 2 (by decide) (hts (.fieldLink RX4 18 "FeedDesk$State" "groups" "[I") (List.mem_of_getElem? (i := 1) rfl)) (fun _ h9 => h9) rfl dX4_membersOf_11 ?_
        refine lv_iload_n hx hb dX4_membersOf_14 rfl (lv_at hl 3 rfl) ?_
        refine va_iald (f := M 2) hx hb hK hP 3 0 rfl rfl (by rw [ex3_4]; exact vp_of_B (ix_1 j_4 hj_4)) dX4_membersOf_15 ?_
        refine lv_iload_n hx hb dX4_membersOf_16 rfl (lv_at hl 1 rfl) ?_
        have hFc : ∀ q : Nat, va_A [] H.size q → (va_A [] s.heap.size) q := roF hS hA
        refine va_calli (va_runSN (As := [.int (M 2 x3_4.toNatClampNeg), .int p1]) (rest := []) ⟨hx, hb, hml, hown, hts⟩ (c_X5_hasBit l dC dI cI cC cS H.size (M 2 x3_4.toNatClampNeg) p1) ⟨va_cnB 2 hts gX4_membersOf_X5_hasBit_n81 rfl rfl rfl (hN.at 2 rfl) (hts (.initialized RX5) (List.mem_of_getElem? (i := 3) rfl)) (by decide +kernel) ⟨Nat.le_of_ble_eq_true rfl, Nat.le_of_ble_eq_true rfl⟩, (hts (.static yX5_hasBit) (List.mem_of_getElem? (i := 2) rfl)), trivial⟩ (pS hK (va_P_nil) (va_D_nil) hN) rfl rfl hl.1 rfl (lv_room (Nat.le_of_ble_eq_true rfl)) dX4_membersOf_17 ⟨Nat.le_of_ble_eq_true rfl, Nat.le_of_ble_eq_true rfl⟩) hS (fun q _ h => hFc q h) hFc (fun r_2 u_2 t_2 H3 locs ht hvm hw hB hz1 hk1 hS => ?_)
        obtain ⟨hw, hre4⟩ := hw
        subst hw
        have hP := ro_keep hP hk1
        refine lv_if_eq (tgt := 26) hx hb dX4_membersOf_20 (by decide) (fun c5 => ?_) (fun c5 => ?_)
        · rw [if_pos c5] at hR
          refine lv_iinc (v := x3_4 + 1) (lv' := [(3, .int (x3_4 + 1)), (0, .ref (a 0)), (1, .int p1), (2, .int x2_4)]) hx hb dX4_membersOf_26 hl (k := 3) rfl rfl (by decide) rfl (fun ls hl => ?_)
          refine lv_goto (tgt := 4) hx hb dX4_membersOf_29 (by decide) ?_
          exact ih_4 (j_4 + 1) x2_4 (x3_4 + 1) (by rw [ex3_4, nI_1]) (by omega) (by omega) hR _ _ _ hP hS (lv_sub hl [1, 2, 3, 0] rfl)
        · rw [if_neg c5] at hR
          refine lv_iinc (v := x2_4 + 1) (lv' := [(2, .int (x2_4 + 1)), (0, .ref (a 0)), (1, .int p1), (3, .int x3_4)]) hx hb dX4_membersOf_23 hl (k := 2) rfl rfl (by decide) rfl (fun ls hl => ?_)
          refine lv_iinc (v := x3_4 + 1) (lv' := [(3, .int (x3_4 + 1)), (2, .int (x2_4 + 1)), (0, .ref (a 0)), (1, .int p1)]) hx hb dX4_membersOf_26 hl (k := 3) rfl rfl (by decide) rfl (fun ls hl => ?_)
          refine lv_goto (tgt := 4) hx hb dX4_membersOf_29 (by decide) ?_
          exact ih_4 (j_4 + 1) (x2_4 + 1) (x3_4 + 1) (by rw [ex3_4, nI_1]) (by omega) (by omega) hR _ _ _ hP hS (lv_sub hl [2, 3, 1, 0] rfl)
  exact hL_4 13 0 0 0 (by decide +kernel) (by decide) (by decide) hR _ _ _ hP hS (lv_sub hl [2, 3, 1, 0] rfl)
abbrev rm_X4_feedBackInto : Room := { frames := 0, cells := 0, slots := 0, locals := 0 }
def f_X4_feedBackInto_p9 (M : SR) (p1 : Int32)  : Nat → Int32 → Int32
  | 0, _ => 0
  | n_9 + 1, x2_9 => (if 4 ≤ x2_9 then (-99) else (if (M 5 x2_9.toNatClampNeg) = p1 then x2_9 else (f_X4_feedBackInto_p9 M p1 n_9) (x2_9 + 1)))
def f_X4_feedBackInto (M : SR) (p1 : Int32) : Int32 := (if 0 ≤ p1 then f_X4_feedBackInto_p9 M p1 5 0 else (-99))
theorem ix_2 : ∀ q0 : Nat, q0 < 4 → vp_okB ((nI q0)) 4 = true := by decide +kernel
set_option maxHeartbeats 4000000 in
set_option maxRecDepth 100000 in
theorem c_X4_feedBackInto (l : Launch) (dC : Nat → ClassId) (dI : Nat → Nat → Nat) (cI cC cS : ClassId) (a : Nat → Nat) (M : SR) (sz : Nat) (p1 : Int32)  : Met l yX4_feedBackInto wsX4_feedBackInto rm_X4_feedBackInto (PcG (dC, dI) (tyL cI cC cS) (cSt a cI M) sz [.ref (a 0), .int p1]) (va_Qi (fun (r : Int32) (_ : Unit) => r = f_X4_feedBackInto M p1) (fun _ _ => True) (va_A [] sz)) 0 0 (va_A [] sz) := by
  refine Met.ofW (cc := cX4_feedBackInto) (maxL := 3) (ret := (some .int)) (by decide) rfl ?_
  intro p e s m args below meth c s₁ B hml hv
  obtain ⟨rfl, hsz, hP, hK, hD0, hN⟩ := hv
  have hx := B.exec
  have hb := B.bytes
  have hr := B.returns
  have hts := atoms_spec (ws := wsX4_feedBackInto) B.pre
  have hown : s.vm.findClass RX4 = some m.cls := findClass_of_methodNamed B.named
  have hlocks := B.notSynchronized
  subst hsz
  have hA : ∀ q : Nat, s.heap.size ≤ q → (va_A [] s.heap.size) q := fun q h => Or.inr h
  have hS : va_S (va_A [] s.heap.size) s.heap s.heap [] := va_S.rf
  have hin4 : ∀ w ∈ wsX40, w ∈ wsX4_feedBackInto := fun _ h => List.mem_cons_of_mem _ (List.mem_append_right _ h)
  have hl := lv_entry [.ref (a 0), .int p1] (n := 3) (Nat.le_of_ble_eq_true rfl)
  rw [lg_entry_eq]
  generalize (lg_sl [.ref (a 0), .int p1] ++ List.replicate (3 - (lg_sl [.ref (a 0), .int p1]).length) Slot.unset).toArray = ls at hl ⊢
  have hl : lv_has ls 3 [(0, .ref (a 0)), (1, .int p1)] := hl
  obtain ⟨R0, eR⟩ : ∃ z, z = f_X4_feedBackInto M p1 := ⟨_, rfl⟩
  have hR := eR
  rw [f_X4_feedBackInto] at hR
  refine lv_iload_n hx hb dX4_feedBackInto_0 rfl (lv_at hl 1 rfl) ?_
  refine lv_if_ge (tgt := 7) hx hb dX4_feedBackInto_1 (by decide) (fun c1 => ?_) (fun c1 => ?_)
  · rw [if_pos c1] at hR
    refine lv_iconst (v := 0) hx hb dX4_feedBackInto_7 (by decide) ?_
    refine lv_istore_n (lv' := [(2, .int 0), (0, .ref (a 0)), (1, .int p1)]) hx hb dX4_feedBackInto_8 rfl hl (by decide) rfl (fun ls hl => ?_)
    have hL_9 : ∀ n_9 : Nat, ∀ (j_9 : Nat), ∀ (x2_9 : Int32) , x2_9 = nI j_9 → j_9 ≤ 4 → 4 < j_9 + n_9 → R0 = f_X4_feedBackInto_p9 M p1 n_9 x2_9 → ∀ (H : Heap) (locs : List Loc) (ls : Array Slot), va_P (dC, dI) vwCl (cSt a cI M) H → va_S (va_A [] s.heap.size) s.heap H locs → lv_has ls 3 [(0, .ref (a 0)), (1, .int p1), (2, .int x2_9)] → W p l e (headSpec wsX4_feedBackInto rm_X4_feedBackInto).room s m ([.ref (a 0), .int p1] : List Value).toArray below meth c H locs 0 0 (MQ below (va_Qi (fun (r : Int32) (_ : Unit) => r = f_X4_feedBackInto M p1) (fun _ _ => True) (va_A [] s.heap.size)) ([.ref (a 0), .int p1] : List Value).toArray s 0 0 (va_A [] s.heap.size)) (F0 m 9 ls []) := by
      intro n_9
      induction n_9 with
      | zero =>
        intro j_9 x2_9 ex2_9 hj0_9 hn_9
        exact absurd hn_9 (by omega)
      | succ n_9 ih_9 =>
        intro j_9 x2_9 ex2_9 hj0_9 hn_9 hR H locs ls hP hS hl
        rw [f_X4_feedBackInto_p9] at hR
        refine lv_iload_n hx hb dX4_feedBackInto_9 rfl (lv_at hl 2 rfl) ?_
        refine lv_iconst (v := 4) hx hb dX4_feedBackInto_10 (by decide) ?_
        refine lv_icmp_ge (tgt := 32) hx hb dX4_feedBackInto_11 (by decide) (fun c2 => ?_) (fun c2 => ?_)
        · rw [if_pos c2] at hR
          refine lv_bipush (v := (-99)) hx hb dX4_feedBackInto_32 (by decide) ?_
          exact W.iret (v := (-99)) hx hb hr (fun t ht hWw => ⟨⟨(-99), (), rfl, hR.symm.trans eR, trivial⟩, hS.F ht⟩) hS.2.2 dX4_feedBackInto_34
        · rw [if_neg c2] at hR
          have hj_9 : j_9 < 4 := lp_ge ex2_9 (by decide +kernel) (by omega) (by omega) c2
          refine lv_aload_n hx hb dX4_feedBackInto_14 rfl (lv_at hl 0 rfl) ?_
          refine va_get (D := (dC, dI)) (ci := 4) (v := .ref (a 6)) (C := RX4) (T := TX4) (N := 18) hx hb hts hin4 hown hK hP 0 rfl rfl 8 (by decide) (hts (.fieldLink RX4 27 "FeedDesk$State" "returns" "[I") (List.mem_of_getElem? (i := 1) rfl)) (fun _ h9 => h9) rfl dX4_feedBackInto_15 ?_
          refine lv_iload_n hx hb dX4_feedBackInto_18 rfl (lv_at hl 2 rfl) ?_
          refine va_iald (f := M 5) hx hb hK hP 6 0 rfl rfl (by rw [ex2_9]; exact vp_of_B (ix_2 j_9 hj_9)) dX4_feedBackInto_19 ?_
          refine lv_iload_n hx hb dX4_feedBackInto_20 rfl (lv_at hl 1 rfl) ?_
          refine lv_icmp_ne (tgt := 26) hx hb dX4_feedBackInto_21 (by decide) (fun c3 => ?_) (fun c3 => ?_)
          · rw [if_neg c3] at hR
            refine lv_iinc (v := x2_9 + 1) (lv' := [(2, .int (x2_9 + 1)), (0, .ref (a 0)), (1, .int p1)]) hx hb dX4_feedBackInto_26 hl (k := 2) rfl rfl (by decide) rfl (fun ls hl => ?_)
            refine lv_goto (tgt := 9) hx hb dX4_feedBackInto_29 (by decide) ?_
            exact ih_9 (j_9 + 1) (x2_9 + 1) (by rw [ex2_9, nI_1]) (by omega) (by omega) hR _ _ _ hP hS (lv_sub hl [1, 2, 0] rfl)
          · rw [if_pos c3] at hR
            refine lv_iload_n hx hb dX4_feedBackInto_24 rfl (lv_at hl 2 rfl) ?_
            exact W.iret (v := x2_9) hx hb hr (fun t ht hWw => ⟨⟨x2_9, (), rfl, hR.symm.trans eR, trivial⟩, hS.F ht⟩) hS.2.2 dX4_feedBackInto_25
    exact hL_9 5 0 0 (by decide +kernel) (by decide) (by decide) hR _ _ _ hP hS (lv_sub hl [1, 2, 0] rfl)
  · rw [if_neg c1] at hR
    refine lv_bipush (v := (-99)) hx hb dX4_feedBackInto_4 (by decide) ?_
    exact W.iret (v := (-99)) hx hb hr (fun t ht hWw => ⟨⟨(-99), (), rfl, hR.symm.trans eR, trivial⟩, hS.F ht⟩) hS.2.2 dX4_feedBackInto_6
abbrev rm_X4_isSoloedAway : Room := { frames := 1, cells := 0, slots := 0, locals := 21 }
def f_X4_isSoloedAway (M : SR) (p1 : Int32) : Int32 := (if (M 10 2) = 0 then 0 else (if (f_X5_hasBit (M 10 1) p1) = 0 then (if ((M 2 p1.toNatClampNeg) &&& (M 10 2)) = 0 then 1 else 0) else 0))
set_option maxHeartbeats 4000000 in
set_option maxRecDepth 100000 in
theorem c_X4_isSoloedAway (l : Launch) (dC : Nat → ClassId) (dI : Nat → Nat → Nat) (cI cC cS : ClassId) (a : Nat → Nat) (M : SR) (sz : Nat) (p1 : Int32) (h1 : vp_in p1 12) : Met l yX4_isSoloedAway wsX4_isSoloedAway rm_X4_isSoloedAway (PcG (dC, dI) (tyL cI cC cS) (cSt a cI M) sz [.ref (a 0), .int p1]) (va_Qi (fun (r : Int32) (_ : Unit) => r = f_X4_isSoloedAway M p1 ∧ (r = 0 ∨ r = 1)) (fun _ _ => True) (va_A [] sz)) 0 0 (va_A [] sz) := by
  refine Met.ofW (cc := cX4_isSoloedAway) (maxL := 2) (ret := (some .boolean)) (by decide) rfl ?_
  intro p e s m args below meth c s₁ B hml hv
  obtain ⟨rfl, hsz, hP, hK, hD0, hN⟩ := hv
  have hx := B.exec
  have hb := B.bytes
  have hr := B.returns
  have hts := atoms_spec (ws := wsX4_isSoloedAway) B.pre
  have hown : s.vm.findClass RX4 = some m.cls := findClass_of_methodNamed B.named
  have hlocks := B.notSynchronized
  subst hsz
  have hA : ∀ q : Nat, s.heap.size ≤ q → (va_A [] s.heap.size) q := fun q h => Or.inr h
  have hS : va_S (va_A [] s.heap.size) s.heap s.heap [] := va_S.rf
  have hin4 : ∀ w ∈ wsX40, w ∈ wsX4_isSoloedAway := fun _ h => List.mem_cons_of_mem _ (List.mem_append_right _ h)
  have hl := lv_entry [.ref (a 0), .int p1] (n := 2) (Nat.le_of_ble_eq_true rfl)
  rw [lg_entry_eq]
  generalize (lg_sl [.ref (a 0), .int p1] ++ List.replicate (2 - (lg_sl [.ref (a 0), .int p1]).length) Slot.unset).toArray = ls at hl ⊢
  have hl : lv_has ls 2 [(0, .ref (a 0)), (1, .int p1)] := hl
  obtain ⟨R0, eR⟩ : ∃ z, z = f_X4_isSoloedAway M p1 := ⟨_, rfl⟩
  have hR := eR
  rw [f_X4_isSoloedAway] at hR
  refine lv_aload_n hx hb dX4_isSoloedAway_0 rfl (lv_at hl 0 rfl) ?_
  refine va_get (D := (dC, dI)) (ci := 4) (v := .int (M 10 2)) (C := RX4) (T := TX4) (N := 18) hx hb hts hin4 hown hK hP 0 rfl rfl 5 (by decide) (hts (.fieldLink RX4 59 "FeedDesk$State" "soloed" "I") (List.mem_of_getElem? (i := 1) rfl)) (fun _ h9 => h9) rfl dX4_isSoloedAway_1 ?_
  refine lv_if_eq (tgt := 36) hx hb dX4_isSoloedAway_4 (by decide) (fun c1 => ?_) (fun c1 => ?_)
  · rw [if_pos c1] at hR
    refine lv_iconst (v := 0) hx hb dX4_isSoloedAway_36 (by decide) ?_
    exact W.zret (v := 0) hx hb hr rfl (fun t ht hWw => ⟨⟨0, (), rfl, ⟨hR.symm.trans eR, (Or.inl rfl)⟩, trivial⟩, hS.F ht⟩) hS.2.2 dX4_isSoloedAway_37
  · rw [if_neg c1] at hR
    refine lv_aload_n hx hb dX4_isSoloedAway_7 rfl (lv_at hl 0 rfl) ?_
    refine va_get (D := (dC, dI)) (ci := 4) (v := .int (M 10 1)) (C := RX4) (T := TX4) (N := 18) hx hb hts hin4 hown hK hP 0 rfl rfl 4 (by decide) (hts (.fieldLink RX4 56 "FeedDesk$State" "safe" "I") (List.mem_of_getElem? (i := 2) rfl)) (fun _ h9 => h9) rfl dX4_isSoloedAway_8 ?_
    refine lv_iload_n hx hb dX4_isSoloedAway_11 rfl (lv_at hl 1 rfl) ?_
    have hFc : ∀ q : Nat, va_A [] s.heap.size q → (va_A [] s.heap.size) q := roF hS hA
    refine va_calli (va_runSN (As := [.int (M 10 1), .int p1]) (rest := []) ⟨hx, hb, hml, hown, hts⟩ (c_X5_hasBit l dC dI cI cC cS s.heap.size (M 10 1) p1) ⟨va_cnB 2 hts gX4_isSoloedAway_X5_hasBit_n81 rfl rfl rfl (hN.at 2 rfl) (hts (.initialized RX5) (List.mem_of_getElem? (i := 5) rfl)) (by decide +kernel) ⟨Nat.le_of_ble_eq_true rfl, Nat.le_of_ble_eq_true rfl⟩, (hts (.static yX5_hasBit) (List.mem_of_getElem? (i := 4) rfl)), trivial⟩ (pS hK (va_P_nil) (va_D_nil) hN) rfl rfl hl.1 rfl (lv_room (Nat.le_of_ble_eq_true rfl)) dX4_isSoloedAway_12 ⟨Nat.le_of_ble_eq_true rfl, Nat.le_of_ble_eq_true rfl⟩) hS (fun q _ h => hFc q h) hFc (fun r_2 u_2 t_2 H3 locs ht hvm hw hB hz1 hk1 hS => ?_)
    obtain ⟨hw, hre4⟩ := hw
    subst hw
    have hP := ro_keep hP hk1
    refine lv_if_ne (tgt := 36) hx hb dX4_isSoloedAway_15 (by decide) (fun c5 => ?_) (fun c5 => ?_)
    · rw [if_neg c5] at hR
      refine lv_iconst (v := 0) hx hb dX4_isSoloedAway_36 (by decide) ?_
      exact W.zret (v := 0) hx hb hr rfl (fun t ht hWw => ⟨⟨0, (), rfl, ⟨hR.symm.trans eR, (Or.inl rfl)⟩, trivial⟩, hS.F ht⟩) hS.2.2 dX4_isSoloedAway_37
    · rw [if_pos c5] at hR
      refine lv_aload_n hx hb dX4_isSoloedAway_18 rfl (lv_at hl 0 rfl) ?_
      refine va_get (D := (dC, dI)) (ci := 4) (v := .ref (a 3)) (C := RX4) (T := TX4) (N := 18) hx hb hts hin4 hown hK hP 0 rfl rfl 2 (by decide) (hts (.fieldLink RX4 18 "FeedDesk$State" "groups" "[I") (List.mem_of_getElem? (i := 3) rfl)) (fun _ h9 => h9) rfl dX4_isSoloedAway_19 ?_
      refine lv_iload_n hx hb dX4_isSoloedAway_22 rfl (lv_at hl 1 rfl) ?_
      refine va_iald (f := M 2) hx hb hK hP 3 0 rfl rfl h1 dX4_isSoloedAway_23 ?_
      refine lv_aload_n hx hb dX4_isSoloedAway_24 rfl (lv_at hl 0 rfl) ?_
      refine va_get (D := (dC, dI)) (ci := 4) (v := .int (M 10 2)) (C := RX4) (T := TX4) (N := 18) hx hb hts hin4 hown hK hP 0 rfl rfl 5 (by decide) (hts (.fieldLink RX4 59 "FeedDesk$State" "soloed" "I") (List.mem_of_getElem? (i := 1) rfl)) (fun _ h9 => h9) rfl dX4_isSoloedAway_25 ?_
      refine lv_iand hx hb dX4_isSoloedAway_28 ?_
      refine lv_if_ne (tgt := 36) hx hb dX4_isSoloedAway_29 (by decide) (fun c6 => ?_) (fun c6 => ?_)
      · rw [if_neg c6] at hR
        refine lv_iconst (v := 0) hx hb dX4_isSoloedAway_36 (by decide) ?_
        exact W.zret (v := 0) hx hb hr rfl (fun t ht hWw => ⟨⟨0, (), rfl, ⟨hR.symm.trans eR, (Or.inl rfl)⟩, trivial⟩, hS.F ht⟩) hS.2.2 dX4_isSoloedAway_37
      · rw [if_pos c6] at hR
        refine lv_iconst (v := 1) hx hb dX4_isSoloedAway_32 (by decide) ?_
        refine lv_goto (tgt := 37) hx hb dX4_isSoloedAway_33 (by decide) ?_
        exact W.zret (v := 1) hx hb hr rfl (fun t ht hWw => ⟨⟨1, (), rfl, ⟨hR.symm.trans eR, (Or.inr rfl)⟩, trivial⟩, hS.F ht⟩) hS.2.2 dX4_isSoloedAway_37
abbrev rm_X4_levelOf : Room := { frames := 2, cells := 0, slots := 0, locals := 42 }
def f_X4_levelOf_p30 (M : SR) (p1 : Int32)  : Nat → Int32 → Int32 → Int32
  | 0, _, _ => 0
  | n_30 + 1, x2_30, x3_30 => (if 4 ≤ x3_30 then x2_30 else (if (f_X5_hasBit (M 2 p1.toNatClampNeg) x3_30) = 0 then (f_X4_levelOf_p30 M p1 n_30) x2_30 (x3_30 + 1) else (f_X4_levelOf_p30 M p1 n_30) ((x2_30 * (M 1 (12 + x3_30).toNatClampNeg)) / 100) (x3_30 + 1)))
def f_X4_levelOf (M : SR) (p1 : Int32) : Int32 := (if (f_X5_hasBit (M 10 0) p1) = 0 then (if (f_X4_isSoloedAway M p1) = 0 then f_X4_levelOf_p30 M p1 5 (M 1 p1.toNatClampNeg) 0 else 0) else 0)
set_option maxHeartbeats 4000000 in
set_option maxRecDepth 100000 in
theorem c_X4_levelOf (l : Launch) (dC : Nat → ClassId) (dI : Nat → Nat → Nat) (cI cC cS : ClassId) (a : Nat → Nat) (M : SR) (sz : Nat) (p1 : Int32) (h1 : vp_in p1 12) : Met l yX4_levelOf wsX4_levelOf rm_X4_levelOf (PcG (dC, dI) (tyL cI cC cS) (cSt a cI M) sz [.ref (a 0), .int p1]) (va_Qi (fun (r : Int32) (_ : Unit) => r = f_X4_levelOf M p1) (fun _ _ => True) (va_A [] sz)) 0 0 (va_A [] sz) := by
  refine Met.ofW (cc := cX4_levelOf) (maxL := 4) (ret := (some .int)) (by decide) rfl ?_
  intro p e s m args below meth c s₁ B hml hv
  obtain ⟨rfl, hsz, hP, hK, hD0, hN⟩ := hv
  have hx := B.exec
  have hb := B.bytes
  have hr := B.returns
  have hts := atoms_spec (ws := wsX4_levelOf) B.pre
  have hown : s.vm.findClass RX4 = some m.cls := findClass_of_methodNamed B.named
  have hlocks := B.notSynchronized
  subst hsz
  have hA : ∀ q : Nat, s.heap.size ≤ q → (va_A [] s.heap.size) q := fun q h => Or.inr h
  have hS : va_S (va_A [] s.heap.size) s.heap s.heap [] := va_S.rf
  have hin4 : ∀ w ∈ wsX40, w ∈ wsX4_levelOf := fun _ h => List.mem_cons_of_mem _ (List.mem_append_right _ h)
  have hl := lv_entry [.ref (a 0), .int p1] (n := 4) (Nat.le_of_ble_eq_true rfl)
  rw [lg_entry_eq]
  generalize (lg_sl [.ref (a 0), .int p1] ++ List.replicate (4 - (lg_sl [.ref (a 0), .int p1]).length) Slot.unset).toArray = ls at hl ⊢
  have hl : lv_has ls 4 [(0, .ref (a 0)), (1, .int p1)] := hl
  obtain ⟨R0, eR⟩ : ∃ z, z = f_X4_levelOf M p1 := ⟨_, rfl⟩
  have hR := eR
  rw [f_X4_levelOf] at hR
  refine lv_aload_n hx hb dX4_levelOf_0 rfl (lv_at hl 0 rfl) ?_
  refine va_get (D := (dC, dI)) (ci := 4) (v := .int (M 10 0)) (C := RX4) (T := TX4) (N := 18) hx hb hts hin4 hown hK hP 0 rfl rfl 3 (by decide) (hts (.fieldLink RX4 52 "FeedDesk$State" "muted" "I") (List.mem_of_getElem? (i := 1) rfl)) (fun _ h9 => h9) rfl dX4_levelOf_1 ?_
  refine lv_iload_n hx hb dX4_levelOf_4 rfl (lv_at hl 1 rfl) ?_
  have hFc : ∀ q : Nat, va_A [] s.heap.size q → (va_A [] s.heap.size) q := roF hS hA
  refine va_calli (va_runSN (As := [.int (M 10 0), .int p1]) (rest := []) ⟨hx, hb, hml, hown, hts⟩ (c_X5_hasBit l dC dI cI cC cS s.heap.size (M 10 0) p1) ⟨va_cnB 2 hts gX4_levelOf_X5_hasBit_n81 rfl rfl rfl (hN.at 2 rfl) (hts (.initialized RX5) (List.mem_of_getElem? (i := 5) rfl)) (by decide +kernel) ⟨Nat.le_of_ble_eq_true rfl, Nat.le_of_ble_eq_true rfl⟩, (hts (.static yX5_hasBit) (List.mem_of_getElem? (i := 4) rfl)), trivial⟩ (pS hK (va_P_nil) (va_D_nil) hN) rfl rfl hl.1 rfl (lv_room (Nat.le_of_ble_eq_true rfl)) dX4_levelOf_5 ⟨Nat.le_of_ble_eq_true rfl, Nat.le_of_ble_eq_true rfl⟩) hS (fun q _ h => hFc q h) hFc (fun r_1 u_1 t_1 H2 locs ht hvm hw hB hz1 hk1 hS => ?_)
  obtain ⟨hw, hre3⟩ := hw
  subst hw
  have hP := ro_keep hP hk1
  refine lv_if_ne (tgt := 19) hx hb dX4_levelOf_8 (by decide) (fun c4 => ?_) (fun c4 => ?_)
  · rw [if_neg c4] at hR
    refine lv_iconst (v := 0) hx hb dX4_levelOf_19 (by decide) ?_
    exact W.iret (v := 0) hx hb hr (fun t ht hWw => ⟨⟨0, (), rfl, hR.symm.trans eR, trivial⟩, hS.F ht⟩) hS.2.2 dX4_levelOf_20
  · rw [if_pos c4] at hR
    refine lv_aload_n hx hb dX4_levelOf_11 rfl (lv_at hl 0 rfl) ?_
    refine lv_iload_n hx hb dX4_levelOf_12 rfl (lv_at hl 1 rfl) ?_
    have hPc : va_P (dC, dI) vwCl (cSt a cI M) H2 := hP.sub [0, 1, 2, 3, 4, 5, 6, 7, 8, 9, 10, 11] rfl
    have hDc : va_D (fun _ => True) (cSt a cI M) := hD0.sub [0, 1, 2, 3, 4, 5, 6, 7, 8, 9, 10, 11] (by decide) rfl
    have hFc : ∀ q : Nat, va_A [] H2.size q → (va_A [] s.heap.size) q := roF hS hA
    refine va_calli (va_runV (As := [.int p1]) (rest := []) ⟨hx, hb, hml, hown, hts⟩ (c_X4_isSoloedAway l dC dI cI cC cS a M H2.size p1 h1) (cwV 1 hts gX4_levelOf_X4_isSoloedAway rfl rfl rfl (by decide +kernel) ⟨Nat.le_of_ble_eq_true rfl, Nat.le_of_ble_eq_true rfl⟩) (pV (q0 := 0) hK hPc hDc hN rfl rfl) rfl rfl hl.1 rfl (lv_room (Nat.le_of_ble_eq_true rfl)) dX4_levelOf_13 ⟨Nat.le_of_ble_eq_true rfl, Nat.le_of_ble_eq_true rfl⟩) hS (fun q _ h => hFc q h) hFc (fun r_5 u_5 t_5 H6 locs ht hvm hw hB hz1 hk1 hS => ?_)
    obtain ⟨hw, hre7⟩ := hw
    subst hw
    have hP := ro_keep hP hk1
    refine lv_if_eq (tgt := 21) hx hb dX4_levelOf_16 (by decide) (fun c8 => ?_) (fun c8 => ?_)
    · rw [if_pos c8] at hR
      refine lv_aload_n hx hb dX4_levelOf_21 rfl (lv_at hl 0 rfl) ?_
      refine va_get (D := (dC, dI)) (ci := 4) (v := .ref (a 2)) (C := RX4) (T := TX4) (N := 18) hx hb hts hin4 hown hK hP 0 rfl rfl 1 (by decide) (hts (.fieldLink RX4 15 "FeedDesk$State" "sliders" "[I") (List.mem_of_getElem? (i := 2) rfl)) (fun _ h9 => h9) rfl dX4_levelOf_22 ?_
      refine lv_iload_n hx hb dX4_levelOf_25 rfl (lv_at hl 1 rfl) ?_
      refine va_iald (f := M 1) hx hb hK hP 2 0 rfl rfl (vp_mono h1 (by decide)) dX4_levelOf_26 ?_
      refine lv_istore_n (lv' := [(2, .int (M 1 p1.toNatClampNeg)), (0, .ref (a 0)), (1, .int p1)]) hx hb dX4_levelOf_27 rfl hl (by decide) rfl (fun ls hl => ?_)
      refine lv_iconst (v := 0) hx hb dX4_levelOf_28 (by decide) ?_
      refine lv_istore_n (lv' := [(3, .int 0), (2, .int (M 1 p1.toNatClampNeg)), (0, .ref (a 0)), (1, .int p1)]) hx hb dX4_levelOf_29 rfl hl (by decide) rfl (fun ls hl => ?_)
      have hL_30 : ∀ n_30 : Nat, ∀ (j_30 : Nat), ∀ (x2_30 : Int32) (x3_30 : Int32) , x3_30 = nI j_30 → j_30 ≤ 4 → 4 < j_30 + n_30 → R0 = f_X4_levelOf_p30 M p1 n_30 x2_30 x3_30 → ∀ (H : Heap) (locs : List Loc) (ls : Array Slot), va_P (dC, dI) vwCl (cSt a cI M) H → va_S (va_A [] s.heap.size) s.heap H locs → lv_has ls 4 [(0, .ref (a 0)), (1, .int p1), (2, .int x2_30), (3, .int x3_30)] → W p l e (headSpec wsX4_levelOf rm_X4_levelOf).room s m ([.ref (a 0), .int p1] : List Value).toArray below meth c H locs 0 0 (MQ below (va_Qi (fun (r : Int32) (_ : Unit) => r = f_X4_levelOf M p1) (fun _ _ => True) (va_A [] s.heap.size)) ([.ref (a 0), .int p1] : List Value).toArray s 0 0 (va_A [] s.heap.size)) (F0 m 30 ls []) := by
        intro n_30
        induction n_30 with
        | zero =>
          intro j_30 x2_30 x3_30 ex3_30 hj0_30 hn_30
          exact absurd hn_30 (by omega)
        | succ n_30 ih_30 =>
          intro j_30 x2_30 x3_30 ex3_30 hj0_30 hn_30 hR H locs ls hP hS hl
          rw [f_X4_levelOf_p30] at hR
          refine lv_iload_n hx hb dX4_levelOf_30 rfl (lv_at hl 3 rfl) ?_
          refine lv_iconst (v := 4) hx hb dX4_levelOf_31 (by decide) ?_
          refine lv_icmp_ge (tgt := 69) hx hb dX4_levelOf_32 (by decide) (fun c9 => ?_) (fun c9 => ?_)
          · rw [if_pos c9] at hR
            refine lv_iload_n hx hb dX4_levelOf_69 rfl (lv_at hl 2 rfl) ?_
            exact W.iret (v := x2_30) hx hb hr (fun t ht hWw => ⟨⟨x2_30, (), rfl, hR.symm.trans eR, trivial⟩, hS.F ht⟩) hS.2.2 dX4_levelOf_70
          · rw [if_neg c9] at hR
            have hj_30 : j_30 < 4 := lp_ge ex3_30 (by decide +kernel) (by omega) (by omega) c9
            refine lv_aload_n hx hb dX4_levelOf_35 rfl (lv_at hl 0 rfl) ?_
            refine va_get (D := (dC, dI)) (ci := 4) (v := .ref (a 3)) (C := RX4) (T := TX4) (N := 18) hx hb hts hin4 hown hK hP 0 rfl rfl 2 (by decide) (hts (.fieldLink RX4 18 "FeedDesk$State" "groups" "[I") (List.mem_of_getElem? (i := 3) rfl)) (fun _ h9 => h9) rfl dX4_levelOf_36 ?_
            refine lv_iload_n hx hb dX4_levelOf_39 rfl (lv_at hl 1 rfl) ?_
            refine va_iald (f := M 2) hx hb hK hP 3 0 rfl rfl h1 dX4_levelOf_40 ?_
            refine lv_iload_n hx hb dX4_levelOf_41 rfl (lv_at hl 3 rfl) ?_
            have hFc : ∀ q : Nat, va_A [] H.size q → (va_A [] s.heap.size) q := roF hS hA
            refine va_calli (va_runSN (As := [.int (M 2 p1.toNatClampNeg), .int x3_30]) (rest := []) ⟨hx, hb, hml, hown, hts⟩ (c_X5_hasBit l dC dI cI cC cS H.size (M 2 p1.toNatClampNeg) x3_30) ⟨va_cnB 2 hts gX4_levelOf_X5_hasBit_n81 rfl rfl rfl (hN.at 2 rfl) (hts (.initialized RX5) (List.mem_of_getElem? (i := 5) rfl)) (by decide +kernel) ⟨Nat.le_of_ble_eq_true rfl, Nat.le_of_ble_eq_true rfl⟩, (hts (.static yX5_hasBit) (List.mem_of_getElem? (i := 4) rfl)), trivial⟩ (pS hK (va_P_nil) (va_D_nil) hN) rfl rfl hl.1 rfl (lv_room (Nat.le_of_ble_eq_true rfl)) dX4_levelOf_42 ⟨Nat.le_of_ble_eq_true rfl, Nat.le_of_ble_eq_true rfl⟩) hS (fun q _ h => hFc q h) hFc (fun r_10 u_10 t_10 H11 locs ht hvm hw hB hz1 hk1 hS => ?_)
            obtain ⟨hw, hre12⟩ := hw
            subst hw
            have hP := ro_keep hP hk1
            refine lv_if_eq (tgt := 63) hx hb dX4_levelOf_45 (by decide) (fun c13 => ?_) (fun c13 => ?_)
            · rw [if_pos c13] at hR
              refine lv_iinc (v := x3_30 + 1) (lv' := [(3, .int (x3_30 + 1)), (0, .ref (a 0)), (1, .int p1), (2, .int x2_30)]) hx hb dX4_levelOf_63 hl (k := 3) rfl rfl (by decide) rfl (fun ls hl => ?_)
              refine lv_goto (tgt := 30) hx hb dX4_levelOf_66 (by decide) ?_
              exact ih_30 (j_30 + 1) x2_30 (x3_30 + 1) (by rw [ex3_30, nI_1]) (by omega) (by omega) hR _ _ _ hP hS (lv_sub hl [1, 2, 3, 0] rfl)
            · rw [if_neg c13] at hR
              refine lv_iload_n hx hb dX4_levelOf_48 rfl (lv_at hl 2 rfl) ?_
              refine lv_aload_n hx hb dX4_levelOf_49 rfl (lv_at hl 0 rfl) ?_
              refine va_get (D := (dC, dI)) (ci := 4) (v := .ref (a 2)) (C := RX4) (T := TX4) (N := 18) hx hb hts hin4 hown hK hP 0 rfl rfl 1 (by decide) (hts (.fieldLink RX4 15 "FeedDesk$State" "sliders" "[I") (List.mem_of_getElem? (i := 2) rfl)) (fun _ h9 => h9) rfl dX4_levelOf_50 ?_
              refine lv_bipush (v := 12) hx hb dX4_levelOf_53 (by decide) ?_
              refine lv_iload_n hx hb dX4_levelOf_55 rfl (lv_at hl 3 rfl) ?_
              refine lv_iadd hx hb dX4_levelOf_56 ?_
              refine va_iald (f := M 1) hx hb hK hP 2 0 rfl rfl (by rw [ex3_30]; exact vp_of_B (ix_0 j_30 hj_30)) dX4_levelOf_57 ?_
              refine lv_imul hx hb dX4_levelOf_58 ?_
              refine lv_bipush (v := 100) hx hb dX4_levelOf_59 (by decide) ?_
              refine lv_idiv hx hb dX4_levelOf_61 (by decide) ?_
              refine lv_istore_n (lv' := [(2, .int ((x2_30 * (M 1 (12 + x3_30).toNatClampNeg)) / 100)), (0, .ref (a 0)), (1, .int p1), (3, .int x3_30)]) hx hb dX4_levelOf_62 rfl hl (by decide) rfl (fun ls hl => ?_)
              refine lv_iinc (v := x3_30 + 1) (lv' := [(3, .int (x3_30 + 1)), (2, .int ((x2_30 * (M 1 (12 + x3_30).toNatClampNeg)) / 100)), (0, .ref (a 0)), (1, .int p1)]) hx hb dX4_levelOf_63 hl (k := 3) rfl rfl (by decide) rfl (fun ls hl => ?_)
              refine lv_goto (tgt := 30) hx hb dX4_levelOf_66 (by decide) ?_
              exact ih_30 (j_30 + 1) ((x2_30 * (M 1 (12 + x3_30).toNatClampNeg)) / 100) (x3_30 + 1) (by rw [ex3_30, nI_1]) (by omega) (by omega) hR _ _ _ hP hS (lv_sub hl [2, 3, 1, 0] rfl)
      exact hL_30 5 0 (M 1 p1.toNatClampNeg) 0 (by decide +kernel) (by decide) (by decide) hR _ _ _ hP hS (lv_sub hl [2, 3, 1, 0] rfl)
    · rw [if_neg c8] at hR
      refine lv_iconst (v := 0) hx hb dX4_levelOf_19 (by decide) ?_
      exact W.iret (v := 0) hx hb hr (fun t ht hWw => ⟨⟨0, (), rfl, hR.symm.trans eR, trivial⟩, hS.F ht⟩) hS.2.2 dX4_levelOf_20
abbrev rm_X4_audibleChannels : Room := { frames := 3, cells := 0, slots := 0, locals := 65 }
def f_X4_audibleChannels_p4 (M : SR)  : Nat → Int32 → Int32 → Int32
  | 0, _, _ => 0
  | n_4 + 1, x1_4, x2_4 => (if 12 ≤ x2_4 then x1_4 else (if (f_X4_levelOf M x2_4) ≤ 0 then (f_X4_audibleChannels_p4 M n_4) x1_4 (x2_4 + 1) else (f_X4_audibleChannels_p4 M n_4) (x1_4 ||| (1 <<< (x2_4 &&& 31))) (x2_4 + 1)))
def f_X4_audibleChannels (M : SR)  : Int32 := f_X4_audibleChannels_p4 M 13 0 0
set_option maxHeartbeats 4000000 in
set_option maxRecDepth 100000 in
theorem c_X4_audibleChannels (l : Launch) (dC : Nat → ClassId) (dI : Nat → Nat → Nat) (cI cC cS : ClassId) (a : Nat → Nat) (M : SR) (sz : Nat)   : Met l yX4_audibleChannels wsX4_audibleChannels rm_X4_audibleChannels (PcG (dC, dI) (tyL cI cC cS) (cSt a cI M) sz [.ref (a 0)]) (va_Qi (fun (r : Int32) (_ : Unit) => r = f_X4_audibleChannels M) (fun _ _ => True) (va_A [] sz)) 0 0 (va_A [] sz) := by
  refine Met.ofW (cc := cX4_audibleChannels) (maxL := 3) (ret := (some .int)) (by decide) rfl ?_
  intro p e s m args below meth c s₁ B hml hv
  obtain ⟨rfl, hsz, hP, hK, hD0, hN⟩ := hv
  have hx := B.exec
  have hb := B.bytes
  have hr := B.returns
  have hts := atoms_spec (ws := wsX4_audibleChannels) B.pre
  have hown : s.vm.findClass RX4 = some m.cls := findClass_of_methodNamed B.named
  have hlocks := B.notSynchronized
  subst hsz
  have hA : ∀ q : Nat, s.heap.size ≤ q → (va_A [] s.heap.size) q := fun q h => Or.inr h
  have hS : va_S (va_A [] s.heap.size) s.heap s.heap [] := va_S.rf
  have hl := lv_entry [.ref (a 0)] (n := 3) (Nat.le_of_ble_eq_true rfl)
  rw [lg_entry_eq]
  generalize (lg_sl [.ref (a 0)] ++ List.replicate (3 - (lg_sl [.ref (a 0)]).length) Slot.unset).toArray = ls at hl ⊢
  have hl : lv_has ls 3 [(0, .ref (a 0))] := hl
  obtain ⟨R0, eR⟩ : ∃ z, z = f_X4_audibleChannels M := ⟨_, rfl⟩
  have hR := eR
  rw [f_X4_audibleChannels] at hR
  refine lv_iconst (v := 0) hx hb dX4_audibleChannels_0 (by decide) ?_
  refine lv_istore_n (lv' := [(1, .int 0), (0, .ref (a 0))]) hx hb dX4_audibleChannels_1 rfl hl (by decide) rfl (fun ls hl => ?_)
  refine lv_iconst (v := 0) hx hb dX4_audibleChannels_2 (by decide) ?_
  refine lv_istore_n (lv' := [(2, .int 0), (1, .int 0), (0, .ref (a 0))]) hx hb dX4_audibleChannels_3 rfl hl (by decide) rfl (fun ls hl => ?_)
  have hL_4 : ∀ n_4 : Nat, ∀ (j_4 : Nat), ∀ (x1_4 : Int32) (x2_4 : Int32) , x2_4 = nI j_4 → j_4 ≤ 12 → 12 < j_4 + n_4 → R0 = f_X4_audibleChannels_p4 M n_4 x1_4 x2_4 → ∀ (H : Heap) (locs : List Loc) (ls : Array Slot), va_P (dC, dI) vwCl (cSt a cI M) H → va_S (va_A [] s.heap.size) s.heap H locs → lv_has ls 3 [(0, .ref (a 0)), (1, .int x1_4), (2, .int x2_4)] → W p l e (headSpec wsX4_audibleChannels rm_X4_audibleChannels).room s m ([.ref (a 0)] : List Value).toArray below meth c H locs 0 0 (MQ below (va_Qi (fun (r : Int32) (_ : Unit) => r = f_X4_audibleChannels M) (fun _ _ => True) (va_A [] s.heap.size)) ([.ref (a 0)] : List Value).toArray s 0 0 (va_A [] s.heap.size)) (F0 m 4 ls []) := by
    intro n_4
    induction n_4 with
    | zero =>
      intro j_4 x1_4 x2_4 ex2_4 hj0_4 hn_4
      exact absurd hn_4 (by omega)
    | succ n_4 ih_4 =>
      intro j_4 x1_4 x2_4 ex2_4 hj0_4 hn_4 hR H locs ls hP hS hl
      rw [f_X4_audibleChannels_p4] at hR
      refine lv_iload_n hx hb dX4_audibleChannels_4 rfl (lv_at hl 2 rfl) ?_
      refine lv_bipush (v := 12) hx hb dX4_audibleChannels_5 (by decide) ?_
      refine lv_icmp_ge (tgt := 30) hx hb dX4_audibleChannels_7 (by decide) (fun c1 => ?_) (fun c1 => ?_)
      · rw [if_pos c1] at hR
        refine lv_iload_n hx hb dX4_audibleChannels_30 rfl (lv_at hl 1 rfl) ?_
        exact W.iret (v := x1_4) hx hb hr (fun t ht hWw => ⟨⟨x1_4, (), rfl, hR.symm.trans eR, trivial⟩, hS.F ht⟩) hS.2.2 dX4_audibleChannels_31
      · rw [if_neg c1] at hR
        have hj_4 : j_4 < 12 := lp_ge ex2_4 (by decide +kernel) (by omega) (by omega) c1
        refine lv_aload_n hx hb dX4_audibleChannels_10 rfl (lv_at hl 0 rfl) ?_
        refine lv_iload_n hx hb dX4_audibleChannels_11 rfl (lv_at hl 2 rfl) ?_
        have hPc : va_P (dC, dI) vwCl (cSt a cI M) H := hP.sub [0, 1, 2, 3, 4, 5, 6, 7, 8, 9, 10, 11] rfl
        have hDc : va_D (fun _ => True) (cSt a cI M) := hD0.sub [0, 1, 2, 3, 4, 5, 6, 7, 8, 9, 10, 11] (by decide) rfl
        have hFc : ∀ q : Nat, va_A [] H.size q → (va_A [] s.heap.size) q := roF hS hA
        refine va_calli (va_runV (As := [.int x2_4]) (rest := []) ⟨hx, hb, hml, hown, hts⟩ (c_X4_levelOf l dC dI cI cC cS a M H.size x2_4 (by rw [ex2_4]; exact vp_of_B (ix_1 j_4 hj_4))) (cwV 1 hts gX4_audibleChannels_X4_levelOf rfl rfl rfl (by decide +kernel) ⟨Nat.le_of_ble_eq_true rfl, Nat.le_of_ble_eq_true rfl⟩) (pV (q0 := 0) hK hPc hDc hN rfl rfl) rfl rfl hl.1 rfl (lv_room (Nat.le_of_ble_eq_true rfl)) dX4_audibleChannels_12 ⟨Nat.le_of_ble_eq_true rfl, Nat.le_of_ble_eq_true rfl⟩) hS (fun q _ h => hFc q h) hFc (fun r_2 u_2 t_2 H3 locs ht hvm hw hB hz1 hk1 hS => ?_)
        subst hw
        have hP := ro_keep hP hk1
        refine lv_if_le (tgt := 24) hx hb dX4_audibleChannels_15 (by decide) (fun c4 => ?_) (fun c4 => ?_)
        · rw [if_pos c4] at hR
          refine lv_iinc (v := x2_4 + 1) (lv' := [(2, .int (x2_4 + 1)), (0, .ref (a 0)), (1, .int x1_4)]) hx hb dX4_audibleChannels_24 hl (k := 2) rfl rfl (by decide) rfl (fun ls hl => ?_)
          refine lv_goto (tgt := 4) hx hb dX4_audibleChannels_27 (by decide) ?_
          exact ih_4 (j_4 + 1) x1_4 (x2_4 + 1) (by rw [ex2_4, nI_1]) (by omega) (by omega) hR _ _ _ hP hS (lv_sub hl [1, 2, 0] rfl)
        · rw [if_neg c4] at hR
          refine lv_iload_n hx hb dX4_audibleChannels_18 rfl (lv_at hl 1 rfl) ?_
          refine lv_iconst (v := 1) hx hb dX4_audibleChannels_19 (by decide) ?_
          refine lv_iload_n hx hb dX4_audibleChannels_20 rfl (lv_at hl 2 rfl) ?_
          refine lv_ishl hx hb dX4_audibleChannels_21 ?_
          refine lv_ior hx hb dX4_audibleChannels_22 ?_
          refine lv_istore_n (lv' := [(1, .int (x1_4 ||| (1 <<< (x2_4 &&& 31)))), (0, .ref (a 0)), (2, .int x2_4)]) hx hb dX4_audibleChannels_23 rfl hl (by decide) rfl (fun ls hl => ?_)
          refine lv_iinc (v := x2_4 + 1) (lv' := [(2, .int (x2_4 + 1)), (1, .int (x1_4 ||| (1 <<< (x2_4 &&& 31)))), (0, .ref (a 0))]) hx hb dX4_audibleChannels_24 hl (k := 2) rfl rfl (by decide) rfl (fun ls hl => ?_)
          refine lv_goto (tgt := 4) hx hb dX4_audibleChannels_27 (by decide) ?_
          exact ih_4 (j_4 + 1) (x1_4 ||| (1 <<< (x2_4 &&& 31))) (x2_4 + 1) (by rw [ex2_4, nI_1]) (by omega) (by omega) hR _ _ _ hP hS (lv_sub hl [2, 1, 0] rfl)
  exact hL_4 13 0 0 0 (by decide +kernel) (by decide) (by decide) hR _ _ _ hP hS (lv_sub hl [2, 1, 0] rfl)
abbrev rm_X4_gainAt : Room := { frames := 1, cells := 0, slots := 0, locals := 21 }
def f_X4_gainAt (M : SR) (p1 : Int32) (p2 : Int32) (p3 : Int32) : Int32 := (if (f_X5_hasBit (M 4 p1.toNatClampNeg) p2) = 0 then (p3 * (M 3 (f_X5_sendIndex p1 p2).toNatClampNeg)) / 100 else 0)
theorem ix_3 : ∀ q0 : Nat, q0 < 4 → ∀ q1 : Nat, q1 < 12 → vp_okB (f_X5_sendIndex (nI q0) (nI q1)) 48 = true := by decide +kernel
set_option maxHeartbeats 4000000 in
set_option maxRecDepth 100000 in
theorem c_X4_gainAt (l : Launch) (dC : Nat → ClassId) (dI : Nat → Nat → Nat) (cI cC cS : ClassId) (a : Nat → Nat) (M : SR) (sz : Nat) (p1 : Int32) (p2 : Int32) (p3 : Int32) (h1 : vp_in p1 4) (h2 : vp_in p2 12) : Met l yX4_gainAt wsX4_gainAt rm_X4_gainAt (PcG (dC, dI) (tyL cI cC cS) (cSt a cI M) sz [.ref (a 0), .int p1, .int p2, .int p3]) (va_Qi (fun (r : Int32) (_ : Unit) => r = f_X4_gainAt M p1 p2 p3) (fun _ _ => True) (va_A [] sz)) 0 0 (va_A [] sz) := by
  refine Met.ofW (cc := cX4_gainAt) (maxL := 4) (ret := (some .int)) (by decide) rfl ?_
  intro p e s m args below meth c s₁ B hml hv
  obtain ⟨rfl, hsz, hP, hK, hD0, hN⟩ := hv
  have hx := B.exec
  have hb := B.bytes
  have hr := B.returns
  have hts := atoms_spec (ws := wsX4_gainAt) B.pre
  have hown : s.vm.findClass RX4 = some m.cls := findClass_of_methodNamed B.named
  have hlocks := B.notSynchronized
  subst hsz
  have hA : ∀ q : Nat, s.heap.size ≤ q → (va_A [] s.heap.size) q := fun q h => Or.inr h
  have hS : va_S (va_A [] s.heap.size) s.heap s.heap [] := va_S.rf
  have hin4 : ∀ w ∈ wsX40, w ∈ wsX4_gainAt := fun _ h => List.mem_cons_of_mem _ (List.mem_append_right _ h)
  obtain ⟨ip1, hip1, ep1⟩ := vp_in_of h1 (by decide)
  obtain ⟨ip2, hip2, ep2⟩ := vp_in_of h2 (by decide)
  have hl := lv_entry [.ref (a 0), .int p1, .int p2, .int p3] (n := 4) (Nat.le_of_ble_eq_true rfl)
  rw [lg_entry_eq]
  generalize (lg_sl [.ref (a 0), .int p1, .int p2, .int p3] ++ List.replicate (4 - (lg_sl [.ref (a 0), .int p1, .int p2, .int p3]).length) Slot.unset).toArray = ls at hl ⊢
  have hl : lv_has ls 4 [(0, .ref (a 0)), (1, .int p1), (2, .int p2), (3, .int p3)] := hl
  obtain ⟨R0, eR⟩ : ∃ z, z = f_X4_gainAt M p1 p2 p3 := ⟨_, rfl⟩
  have hR := eR
  rw [f_X4_gainAt] at hR
  refine lv_aload_n hx hb dX4_gainAt_0 rfl (lv_at hl 0 rfl) ?_
  refine va_get (D := (dC, dI)) (ci := 4) (v := .ref (a 5)) (C := RX4) (T := TX4) (N := 18) hx hb hts hin4 hown hK hP 0 rfl rfl 7 (by decide) (hts (.fieldLink RX4 24 "FeedDesk$State" "owners" "[I") (List.mem_of_getElem? (i := 1) rfl)) (fun _ h9 => h9) rfl dX4_gainAt_1 ?_
  refine lv_iload_n hx hb dX4_gainAt_4 rfl (lv_at hl 1 rfl) ?_
  refine va_iald (f := M 4) hx hb hK hP 5 0 rfl rfl h1 dX4_gainAt_5 ?_
  refine lv_iload_n hx hb dX4_gainAt_6 rfl (lv_at hl 2 rfl) ?_
  have hFc : ∀ q : Nat, va_A [] s.heap.size q → (va_A [] s.heap.size) q := roF hS hA
  refine va_calli (va_runSN (As := [.int (M 4 p1.toNatClampNeg), .int p2]) (rest := []) ⟨hx, hb, hml, hown, hts⟩ (c_X5_hasBit l dC dI cI cC cS s.heap.size (M 4 p1.toNatClampNeg) p2) ⟨va_cnB 2 hts gX4_gainAt_X5_hasBit_n81 rfl rfl rfl (hN.at 2 rfl) (hts (.initialized RX5) (List.mem_of_getElem? (i := 4) rfl)) (by decide +kernel) ⟨Nat.le_of_ble_eq_true rfl, Nat.le_of_ble_eq_true rfl⟩, (hts (.static yX5_hasBit) (List.mem_of_getElem? (i := 3) rfl)), trivial⟩ (pS hK (va_P_nil) (va_D_nil) hN) rfl rfl hl.1 rfl (lv_room (Nat.le_of_ble_eq_true rfl)) dX4_gainAt_7 ⟨Nat.le_of_ble_eq_true rfl, Nat.le_of_ble_eq_true rfl⟩) hS (fun q _ h => hFc q h) hFc (fun r_1 u_1 t_1 H2 locs ht hvm hw hB hz1 hk1 hS => ?_)
  obtain ⟨hw, hre3⟩ := hw
  subst hw
  have hP := ro_keep hP hk1
  refine lv_if_eq (tgt := 15) hx hb dX4_gainAt_10 (by decide) (fun c4 => ?_) (fun c4 => ?_)
  · rw [if_pos c4] at hR
    refine lv_iload_n hx hb dX4_gainAt_15 rfl (lv_at hl 3 rfl) ?_
    refine lv_aload_n hx hb dX4_gainAt_16 rfl (lv_at hl 0 rfl) ?_
    refine va_get (D := (dC, dI)) (ci := 4) (v := .ref (a 4)) (C := RX4) (T := TX4) (N := 18) hx hb hts hin4 hown hK hP 0 rfl rfl 6 (by decide) (hts (.fieldLink RX4 21 "FeedDesk$State" "sends" "[I") (List.mem_of_getElem? (i := 2) rfl)) (fun _ h9 => h9) rfl dX4_gainAt_17 ?_
    refine lv_iload_n hx hb dX4_gainAt_20 rfl (lv_at hl 1 rfl) ?_
    refine lv_iload_n hx hb dX4_gainAt_21 rfl (lv_at hl 2 rfl) ?_
    have hFc : ∀ q : Nat, va_A [] H2.size q → (va_A [] s.heap.size) q := roF hS hA
    refine va_calli (va_runSN (As := [.int p1, .int p2]) (rest := [.ref (a 4), .int p3]) ⟨hx, hb, hml, hown, hts⟩ (c_X5_sendIndex l dC dI cI cC cS H2.size p1 p2) ⟨va_cnB 2 hts gX4_gainAt_X5_sendIndex_n104 rfl rfl rfl (hN.at 5 rfl) (hts (.initialized RX5) (List.mem_of_getElem? (i := 4) rfl)) (by decide +kernel) ⟨Nat.le_of_ble_eq_true rfl, Nat.le_of_ble_eq_true rfl⟩, (hts (.static yX5_sendIndex) (List.mem_of_getElem? (i := 6) rfl)), trivial⟩ (pS hK (va_P_nil) (va_D_nil) hN) rfl rfl hl.1 rfl (lv_room (Nat.le_of_ble_eq_true rfl)) dX4_gainAt_22 ⟨Nat.le_of_ble_eq_true rfl, Nat.le_of_ble_eq_true rfl⟩) hS (fun q _ h => hFc q h) hFc (fun r_5 u_5 t_5 H6 locs ht hvm hw hB hz1 hk1 hS => ?_)
    subst hw
    have hP := ro_keep hP hk1
    refine va_iald (f := M 3) hx hb hK hP 4 0 rfl rfl (by rw [ep1, ep2]; exact vp_of_B (ix_3 ip1 hip1 ip2 hip2)) dX4_gainAt_25 ?_
    refine lv_imul hx hb dX4_gainAt_26 ?_
    refine lv_bipush (v := 100) hx hb dX4_gainAt_27 (by decide) ?_
    refine lv_idiv hx hb dX4_gainAt_29 (by decide) ?_
    exact W.iret (v := (p3 * (M 3 (f_X5_sendIndex p1 p2).toNatClampNeg)) / 100) hx hb hr (fun t ht hWw => ⟨⟨(p3 * (M 3 (f_X5_sendIndex p1 p2).toNatClampNeg)) / 100, (), rfl, hR.symm.trans eR, trivial⟩, hS.F ht⟩) hS.2.2 dX4_gainAt_30
  · rw [if_neg c4] at hR
    refine lv_iconst (v := 0) hx hb dX4_gainAt_13 (by decide) ?_
    exact W.iret (v := 0) hx hb hr (fun t ht hWw => ⟨⟨0, (), rfl, hR.symm.trans eR, trivial⟩, hS.F ht⟩) hS.2.2 dX4_gainAt_14
abbrev rm_X4_gainOf : Room := { frames := 3, cells := 0, slots := 0, locals := 65 }
def f_X4_gainOf (M : SR) (p1 : Int32) (p2 : Int32) : Int32 := f_X4_gainAt M p1 p2 (f_X4_levelOf M p2)
set_option maxHeartbeats 4000000 in
set_option maxRecDepth 100000 in
theorem c_X4_gainOf (l : Launch) (dC : Nat → ClassId) (dI : Nat → Nat → Nat) (cI cC cS : ClassId) (a : Nat → Nat) (M : SR) (sz : Nat) (p1 : Int32) (p2 : Int32) (h1 : vp_in p1 4) (h2 : vp_in p2 12) : Met l yX4_gainOf wsX4_gainOf rm_X4_gainOf (PcG (dC, dI) (tyL cI cC cS) (cSt a cI M) sz [.ref (a 0), .int p1, .int p2]) (va_Qi (fun (r : Int32) (_ : Unit) => r = f_X4_gainOf M p1 p2) (fun _ _ => True) (va_A [] sz)) 0 0 (va_A [] sz) := by
  refine Met.ofW (cc := cX4_gainOf) (maxL := 3) (ret := (some .int)) (by decide) rfl ?_
  intro p e s m args below meth c s₁ B hml hv
  obtain ⟨rfl, hsz, hP, hK, hD0, hN⟩ := hv
  have hx := B.exec
  have hb := B.bytes
  have hr := B.returns
  have hts := atoms_spec (ws := wsX4_gainOf) B.pre
  have hown : s.vm.findClass RX4 = some m.cls := findClass_of_methodNamed B.named
  have hlocks := B.notSynchronized
  subst hsz
  have hA : ∀ q : Nat, s.heap.size ≤ q → (va_A [] s.heap.size) q := fun q h => Or.inr h
  have hS : va_S (va_A [] s.heap.size) s.heap s.heap [] := va_S.rf
  have hl := lv_entry [.ref (a 0), .int p1, .int p2] (n := 3) (Nat.le_of_ble_eq_true rfl)
  rw [lg_entry_eq]
  generalize (lg_sl [.ref (a 0), .int p1, .int p2] ++ List.replicate (3 - (lg_sl [.ref (a 0), .int p1, .int p2]).length) Slot.unset).toArray = ls at hl ⊢
  have hl : lv_has ls 3 [(0, .ref (a 0)), (1, .int p1), (2, .int p2)] := hl
  obtain ⟨R0, eR⟩ : ∃ z, z = f_X4_gainOf M p1 p2 := ⟨_, rfl⟩
  have hR := eR
  rw [f_X4_gainOf] at hR
  refine lv_aload_n hx hb dX4_gainOf_0 rfl (lv_at hl 0 rfl) ?_
  refine lv_iload_n hx hb dX4_gainOf_1 rfl (lv_at hl 1 rfl) ?_
  refine lv_iload_n hx hb dX4_gainOf_2 rfl (lv_at hl 2 rfl) ?_
  refine lv_aload_n hx hb dX4_gainOf_3 rfl (lv_at hl 0 rfl) ?_
  refine lv_iload_n hx hb dX4_gainOf_4 rfl (lv_at hl 2 rfl) ?_
  have hPc : va_P (dC, dI) vwCl (cSt a cI M) s.heap := hP.sub [0, 1, 2, 3, 4, 5, 6, 7, 8, 9, 10, 11] rfl
  have hDc : va_D (fun _ => True) (cSt a cI M) := hD0.sub [0, 1, 2, 3, 4, 5, 6, 7, 8, 9, 10, 11] (by decide) rfl
  have hFc : ∀ q : Nat, va_A [] s.heap.size q → (va_A [] s.heap.size) q := roF hS hA
  refine va_calli (va_runV (As := [.int p2]) (rest := [.int p2, .int p1, .ref (a 0)]) ⟨hx, hb, hml, hown, hts⟩ (c_X4_levelOf l dC dI cI cC cS a M s.heap.size p2 h2) (cwV 1 hts gX4_gainOf_X4_levelOf rfl rfl rfl (by decide +kernel) ⟨Nat.le_of_ble_eq_true rfl, Nat.le_of_ble_eq_true rfl⟩) (pV (q0 := 0) hK hPc hDc hN rfl rfl) rfl rfl hl.1 rfl (lv_room (Nat.le_of_ble_eq_true rfl)) dX4_gainOf_5 ⟨Nat.le_of_ble_eq_true rfl, Nat.le_of_ble_eq_true rfl⟩) hS (fun q _ h => hFc q h) hFc (fun r_1 u_1 t_1 H2 locs ht hvm hw hB hz1 hk1 hS => ?_)
  subst hw
  have hP := ro_keep hP hk1
  have hPc : va_P (dC, dI) vwCl (cSt a cI M) H2 := hP.sub [0, 1, 2, 3, 4, 5, 6, 7, 8, 9, 10, 11] rfl
  have hDc : va_D (fun _ => True) (cSt a cI M) := hD0.sub [0, 1, 2, 3, 4, 5, 6, 7, 8, 9, 10, 11] (by decide) rfl
  have hFc : ∀ q : Nat, va_A [] H2.size q → (va_A [] s.heap.size) q := roF hS hA
  refine va_calli (va_runV (As := [.int p1, .int p2, .int (f_X4_levelOf M p2)]) (rest := []) ⟨hx, hb, hml, hown, hts⟩ (c_X4_gainAt l dC dI cI cC cS a M H2.size p1 p2 (f_X4_levelOf M p2) h1 h2) (cwV 3 hts gX4_gainOf_X4_gainAt rfl rfl rfl (by decide +kernel) ⟨Nat.le_of_ble_eq_true rfl, Nat.le_of_ble_eq_true rfl⟩) (pV (q0 := 0) hK hPc hDc hN rfl rfl) rfl rfl hl.1 rfl (lv_room (Nat.le_of_ble_eq_true rfl)) dX4_gainOf_8 ⟨Nat.le_of_ble_eq_true rfl, Nat.le_of_ble_eq_true rfl⟩) hS (fun q _ h => hFc q h) hFc (fun r_3 u_3 t_3 H4 locs ht hvm hw hB hz1 hk1 hS => ?_)
  subst hw
  have hP := ro_keep hP hk1
  exact W.iret (v := f_X4_gainAt M p1 p2 (f_X4_levelOf M p2)) hx hb hr (fun t ht hWw => ⟨⟨f_X4_gainAt M p1 p2 (f_X4_levelOf M p2), (), rfl, hR.symm.trans eR, trivial⟩, hS.F ht⟩) hS.2.2 dX4_gainOf_11
abbrev rm_X4_channelsReaching : Room := { frames := 4, cells := 0, slots := 0, locals := 87 }
def f_X4_channelsReaching_p4 (M : SR) (p1 : Int32)  : Nat → Int32 → Int32 → Int32
  | 0, _, _ => 0
  | n_4 + 1, x2_4, x3_4 => (if 12 ≤ x3_4 then x2_4 else (if (f_X4_gainOf M p1 x3_4) ≤ 0 then (f_X4_channelsReaching_p4 M p1 n_4) x2_4 (x3_4 + 1) else (f_X4_channelsReaching_p4 M p1 n_4) (x2_4 ||| (1 <<< (x3_4 &&& 31))) (x3_4 + 1)))
def f_X4_channelsReaching (M : SR) (p1 : Int32) : Int32 := f_X4_channelsReaching_p4 M p1 13 0 0
set_option maxHeartbeats 4000000 in
set_option maxRecDepth 100000 in
theorem c_X4_channelsReaching (l : Launch) (dC : Nat → ClassId) (dI : Nat → Nat → Nat) (cI cC cS : ClassId) (a : Nat → Nat) (M : SR) (sz : Nat) (p1 : Int32) (h1 : vp_in p1 4) : Met l yX4_channelsReaching wsX4_channelsReaching rm_X4_channelsReaching (PcG (dC, dI) (tyL cI cC cS) (cSt a cI M) sz [.ref (a 0), .int p1]) (va_Qi (fun (r : Int32) (_ : Unit) => r = f_X4_channelsReaching M p1) (fun _ _ => True) (va_A [] sz)) 0 0 (va_A [] sz) := by
  refine Met.ofW (cc := cX4_channelsReaching) (maxL := 4) (ret := (some .int)) (by decide) rfl ?_
  intro p e s m args below meth c s₁ B hml hv
  obtain ⟨rfl, hsz, hP, hK, hD0, hN⟩ := hv
  have hx := B.exec
  have hb := B.bytes
  have hr := B.returns
  have hts := atoms_spec (ws := wsX4_channelsReaching) B.pre
  have hown : s.vm.findClass RX4 = some m.cls := findClass_of_methodNamed B.named
  have hlocks := B.notSynchronized
  subst hsz
  have hA : ∀ q : Nat, s.heap.size ≤ q → (va_A [] s.heap.size) q := fun q h => Or.inr h
  have hS : va_S (va_A [] s.heap.size) s.heap s.heap [] := va_S.rf
  have hl := lv_entry [.ref (a 0), .int p1] (n := 4) (Nat.le_of_ble_eq_true rfl)
  rw [lg_entry_eq]
  generalize (lg_sl [.ref (a 0), .int p1] ++ List.replicate (4 - (lg_sl [.ref (a 0), .int p1]).length) Slot.unset).toArray = ls at hl ⊢
  have hl : lv_has ls 4 [(0, .ref (a 0)), (1, .int p1)] := hl
  obtain ⟨R0, eR⟩ : ∃ z, z = f_X4_channelsReaching M p1 := ⟨_, rfl⟩
  have hR := eR
  rw [f_X4_channelsReaching] at hR
  refine lv_iconst (v := 0) hx hb dX4_channelsReaching_0 (by decide) ?_
  refine lv_istore_n (lv' := [(2, .int 0), (0, .ref (a 0)), (1, .int p1)]) hx hb dX4_channelsReaching_1 rfl hl (by decide) rfl (fun ls hl => ?_)
  refine lv_iconst (v := 0) hx hb dX4_channelsReaching_2 (by decide) ?_
  refine lv_istore_n (lv' := [(3, .int 0), (2, .int 0), (0, .ref (a 0)), (1, .int p1)]) hx hb dX4_channelsReaching_3 rfl hl (by decide) rfl (fun ls hl => ?_)
  have hL_4 : ∀ n_4 : Nat, ∀ (j_4 : Nat), ∀ (x2_4 : Int32) (x3_4 : Int32) , x3_4 = nI j_4 → j_4 ≤ 12 → 12 < j_4 + n_4 → R0 = f_X4_channelsReaching_p4 M p1 n_4 x2_4 x3_4 → ∀ (H : Heap) (locs : List Loc) (ls : Array Slot), va_P (dC, dI) vwCl (cSt a cI M) H → va_S (va_A [] s.heap.size) s.heap H locs → lv_has ls 4 [(0, .ref (a 0)), (1, .int p1), (2, .int x2_4), (3, .int x3_4)] → W p l e (headSpec wsX4_channelsReaching rm_X4_channelsReaching).room s m ([.ref (a 0), .int p1] : List Value).toArray below meth c H locs 0 0 (MQ below (va_Qi (fun (r : Int32) (_ : Unit) => r = f_X4_channelsReaching M p1) (fun _ _ => True) (va_A [] s.heap.size)) ([.ref (a 0), .int p1] : List Value).toArray s 0 0 (va_A [] s.heap.size)) (F0 m 4 ls []) := by
    intro n_4
    induction n_4 with
    | zero =>
      intro j_4 x2_4 x3_4 ex3_4 hj0_4 hn_4
      exact absurd hn_4 (by omega)
    | succ n_4 ih_4 =>
      intro j_4 x2_4 x3_4 ex3_4 hj0_4 hn_4 hR H locs ls hP hS hl
      rw [f_X4_channelsReaching_p4] at hR
      refine lv_iload_n hx hb dX4_channelsReaching_4 rfl (lv_at hl 3 rfl) ?_
      refine lv_bipush (v := 12) hx hb dX4_channelsReaching_5 (by decide) ?_
      refine lv_icmp_ge (tgt := 31) hx hb dX4_channelsReaching_7 (by decide) (fun c1 => ?_) (fun c1 => ?_)
      · rw [if_pos c1] at hR
        refine lv_iload_n hx hb dX4_channelsReaching_31 rfl (lv_at hl 2 rfl) ?_
        exact W.iret (v := x2_4) hx hb hr (fun t ht hWw => ⟨⟨x2_4, (), rfl, hR.symm.trans eR, trivial⟩, hS.F ht⟩) hS.2.2 dX4_channelsReaching_32
      · rw [if_neg c1] at hR
        have hj_4 : j_4 < 12 := lp_ge ex3_4 (by decide +kernel) (by omega) (by omega) c1
        refine lv_aload_n hx hb dX4_channelsReaching_10 rfl (lv_at hl 0 rfl) ?_
        refine lv_iload_n hx hb dX4_channelsReaching_11 rfl (lv_at hl 1 rfl) ?_
        refine lv_iload_n hx hb dX4_channelsReaching_12 rfl (lv_at hl 3 rfl) ?_
        have hPc : va_P (dC, dI) vwCl (cSt a cI M) H := hP.sub [0, 1, 2, 3, 4, 5, 6, 7, 8, 9, 10, 11] rfl
        have hDc : va_D (fun _ => True) (cSt a cI M) := hD0.sub [0, 1, 2, 3, 4, 5, 6, 7, 8, 9, 10, 11] (by decide) rfl
        have hFc : ∀ q : Nat, va_A [] H.size q → (va_A [] s.heap.size) q := roF hS hA
        refine va_calli (va_runV (As := [.int p1, .int x3_4]) (rest := []) ⟨hx, hb, hml, hown, hts⟩ (c_X4_gainOf l dC dI cI cC cS a M H.size p1 x3_4 h1 (by rw [ex3_4]; exact vp_of_B (ix_1 j_4 hj_4))) (cwV 2 hts gX4_channelsReaching_X4_gainOf rfl rfl rfl (by decide +kernel) ⟨Nat.le_of_ble_eq_true rfl, Nat.le_of_ble_eq_true rfl⟩) (pV (q0 := 0) hK hPc hDc hN rfl rfl) rfl rfl hl.1 rfl (lv_room (Nat.le_of_ble_eq_true rfl)) dX4_channelsReaching_13 ⟨Nat.le_of_ble_eq_true rfl, Nat.le_of_ble_eq_true rfl⟩) hS (fun q _ h => hFc q h) hFc (fun r_2 u_2 t_2 H3 locs ht hvm hw hB hz1 hk1 hS => ?_)
        subst hw
        have hP := ro_keep hP hk1
        refine lv_if_le (tgt := 25) hx hb dX4_channelsReaching_16 (by decide) (fun c4 => ?_) (fun c4 => ?_)
        · rw [if_pos c4] at hR
          refine lv_iinc (v := x3_4 + 1) (lv' := [(3, .int (x3_4 + 1)), (0, .ref (a 0)), (1, .int p1), (2, .int x2_4)]) hx hb dX4_channelsReaching_25 hl (k := 3) rfl rfl (by decide) rfl (fun ls hl => ?_)
          refine lv_goto (tgt := 4) hx hb dX4_channelsReaching_28 (by decide) ?_
          exact ih_4 (j_4 + 1) x2_4 (x3_4 + 1) (by rw [ex3_4, nI_1]) (by omega) (by omega) hR _ _ _ hP hS (lv_sub hl [1, 2, 3, 0] rfl)
        · rw [if_neg c4] at hR
          refine lv_iload_n hx hb dX4_channelsReaching_19 rfl (lv_at hl 2 rfl) ?_
          refine lv_iconst (v := 1) hx hb dX4_channelsReaching_20 (by decide) ?_
          refine lv_iload_n hx hb dX4_channelsReaching_21 rfl (lv_at hl 3 rfl) ?_
          refine lv_ishl hx hb dX4_channelsReaching_22 ?_
          refine lv_ior hx hb dX4_channelsReaching_23 ?_
          refine lv_istore_n (lv' := [(2, .int (x2_4 ||| (1 <<< (x3_4 &&& 31)))), (0, .ref (a 0)), (1, .int p1), (3, .int x3_4)]) hx hb dX4_channelsReaching_24 rfl hl (by decide) rfl (fun ls hl => ?_)
          refine lv_iinc (v := x3_4 + 1) (lv' := [(3, .int (x3_4 + 1)), (2, .int (x2_4 ||| (1 <<< (x3_4 &&& 31)))), (0, .ref (a 0)), (1, .int p1)]) hx hb dX4_channelsReaching_25 hl (k := 3) rfl rfl (by decide) rfl (fun ls hl => ?_)
          refine lv_goto (tgt := 4) hx hb dX4_channelsReaching_28 (by decide) ?_
          exact ih_4 (j_4 + 1) (x2_4 ||| (1 <<< (x3_4 &&& 31))) (x3_4 + 1) (by rw [ex3_4, nI_1]) (by omega) (by omega) hR _ _ _ hP hS (lv_sub hl [2, 3, 1, 0] rfl)
  exact hL_4 13 0 0 0 (by decide +kernel) (by decide) (by decide) hR _ _ _ hP hS (lv_sub hl [2, 3, 1, 0] rfl)
abbrev rm_X4_slidersUnlike : Room := { frames := 0, cells := 0, slots := 0, locals := 0 }
def f_X4_slidersUnlike_p4 (M : SR) (p1 : Int32)  : Nat → Int32 → Int32 → Int32
  | 0, _, _ => 0
  | n_4 + 1, x2_4, x3_4 => (if 16 ≤ x3_4 then x2_4 else (if (M 1 x3_4.toNatClampNeg) = (M 8 ((p1 * 17) + x3_4).toNatClampNeg) then (f_X4_slidersUnlike_p4 M p1 n_4) x2_4 (x3_4 + 1) else (f_X4_slidersUnlike_p4 M p1 n_4) (x2_4 + 1) (x3_4 + 1)))
def f_X4_slidersUnlike (M : SR) (p1 : Int32) : Int32 := f_X4_slidersUnlike_p4 M p1 17 0 0
theorem ix_4 : ∀ q0 : Nat, q0 < 16 → vp_okB ((nI q0)) 16 = true := by decide +kernel
theorem ix_5 : ∀ q0 : Nat, q0 < 6 → ∀ q1 : Nat, q1 < 16 → vp_okB (((nI q0) * 17) + (nI q1)) 102 = true := by decide +kernel
set_option maxHeartbeats 4000000 in
set_option maxRecDepth 100000 in
theorem c_X4_slidersUnlike (l : Launch) (dC : Nat → ClassId) (dI : Nat → Nat → Nat) (cI cC cS : ClassId) (a : Nat → Nat) (M : SR) (sz : Nat) (p1 : Int32) (h1 : vp_in p1 6) : Met l yX4_slidersUnlike wsX4_slidersUnlike rm_X4_slidersUnlike (PcG (dC, dI) (tyL cI cC cS) (cSt a cI M) sz [.ref (a 0), .int p1]) (va_Qi (fun (r : Int32) (_ : Unit) => r = f_X4_slidersUnlike M p1) (fun _ _ => True) (va_A [] sz)) 0 0 (va_A [] sz) := by
  refine Met.ofW (cc := cX4_slidersUnlike) (maxL := 4) (ret := (some .int)) (by decide) rfl ?_
  intro p e s m args below meth c s₁ B hml hv
  obtain ⟨rfl, hsz, hP, hK, hD0, hN⟩ := hv
  have hx := B.exec
  have hb := B.bytes
  have hr := B.returns
  have hts := atoms_spec (ws := wsX4_slidersUnlike) B.pre
  have hown : s.vm.findClass RX4 = some m.cls := findClass_of_methodNamed B.named
  have hlocks := B.notSynchronized
  subst hsz
  have hA : ∀ q : Nat, s.heap.size ≤ q → (va_A [] s.heap.size) q := fun q h => Or.inr h
  have hS : va_S (va_A [] s.heap.size) s.heap s.heap [] := va_S.rf
  have hin4 : ∀ w ∈ wsX40, w ∈ wsX4_slidersUnlike := fun _ h => List.mem_cons_of_mem _ (List.mem_append_right _ h)
  obtain ⟨ip1, hip1, ep1⟩ := vp_in_of h1 (by decide)
  have hl := lv_entry [.ref (a 0), .int p1] (n := 4) (Nat.le_of_ble_eq_true rfl)
  rw [lg_entry_eq]
  generalize (lg_sl [.ref (a 0), .int p1] ++ List.replicate (4 - (lg_sl [.ref (a 0), .int p1]).length) Slot.unset).toArray = ls at hl ⊢
  have hl : lv_has ls 4 [(0, .ref (a 0)), (1, .int p1)] := hl
  obtain ⟨R0, eR⟩ : ∃ z, z = f_X4_slidersUnlike M p1 := ⟨_, rfl⟩
  have hR := eR
  rw [f_X4_slidersUnlike] at hR
  refine lv_iconst (v := 0) hx hb dX4_slidersUnlike_0 (by decide) ?_
  refine lv_istore_n (lv' := [(2, .int 0), (0, .ref (a 0)), (1, .int p1)]) hx hb dX4_slidersUnlike_1 rfl hl (by decide) rfl (fun ls hl => ?_)
  refine lv_iconst (v := 0) hx hb dX4_slidersUnlike_2 (by decide) ?_
  refine lv_istore_n (lv' := [(3, .int 0), (2, .int 0), (0, .ref (a 0)), (1, .int p1)]) hx hb dX4_slidersUnlike_3 rfl hl (by decide) rfl (fun ls hl => ?_)
  have hL_4 : ∀ n_4 : Nat, ∀ (j_4 : Nat), ∀ (x2_4 : Int32) (x3_4 : Int32) , x3_4 = nI j_4 → j_4 ≤ 16 → 16 < j_4 + n_4 → R0 = f_X4_slidersUnlike_p4 M p1 n_4 x2_4 x3_4 → ∀ (H : Heap) (locs : List Loc) (ls : Array Slot), va_P (dC, dI) vwCl (cSt a cI M) H → va_S (va_A [] s.heap.size) s.heap H locs → lv_has ls 4 [(0, .ref (a 0)), (1, .int p1), (2, .int x2_4), (3, .int x3_4)] → W p l e (headSpec wsX4_slidersUnlike rm_X4_slidersUnlike).room s m ([.ref (a 0), .int p1] : List Value).toArray below meth c H locs 0 0 (MQ below (va_Qi (fun (r : Int32) (_ : Unit) => r = f_X4_slidersUnlike M p1) (fun _ _ => True) (va_A [] s.heap.size)) ([.ref (a 0), .int p1] : List Value).toArray s 0 0 (va_A [] s.heap.size)) (F0 m 4 ls []) := by
    intro n_4
    induction n_4 with
    | zero =>
      intro j_4 x2_4 x3_4 ex3_4 hj0_4 hn_4
      exact absurd hn_4 (by omega)
    | succ n_4 ih_4 =>
      intro j_4 x2_4 x3_4 ex3_4 hj0_4 hn_4 hR H locs ls hP hS hl
      rw [f_X4_slidersUnlike_p4] at hR
      refine lv_iload_n hx hb dX4_slidersUnlike_4 rfl (lv_at hl 3 rfl) ?_
      refine lv_bipush (v := 16) hx hb dX4_slidersUnlike_5 (by decide) ?_
      refine lv_icmp_ge (tgt := 39) hx hb dX4_slidersUnlike_7 (by decide) (fun c1 => ?_) (fun c1 => ?_)
      · rw [if_pos c1] at hR
        refine lv_iload_n hx hb dX4_slidersUnlike_39 rfl (lv_at hl 2 rfl) ?_
        exact W.iret (v := x2_4) hx hb hr (fun t ht hWw => ⟨⟨x2_4, (), rfl, hR.symm.trans eR, trivial⟩, hS.F ht⟩) hS.2.2 dX4_slidersUnlike_40
      · rw [if_neg c1] at hR
        have hj_4 : j_4 < 16 := lp_ge ex3_4 (by decide +kernel) (by omega) (by omega) c1
        refine lv_aload_n hx hb dX4_slidersUnlike_10 rfl (lv_at hl 0 rfl) ?_
        refine va_get (D := (dC, dI)) (ci := 4) (v := .ref (a 2)) (C := RX4) (T := TX4) (N := 18) hx hb hts hin4 hown hK hP 0 rfl rfl 1 (by decide) (hts (.fieldLink RX4 15 "FeedDesk$State" "sliders" "[I") (List.mem_of_getElem? (i := 1) rfl)) (fun _ h9 => h9) rfl dX4_slidersUnlike_11 ?_
        refine lv_iload_n hx hb dX4_slidersUnlike_14 rfl (lv_at hl 3 rfl) ?_
        refine va_iald (f := M 1) hx hb hK hP 2 0 rfl rfl (by rw [ex3_4]; exact vp_of_B (ix_4 j_4 hj_4)) dX4_slidersUnlike_15 ?_
        refine lv_aload_n hx hb dX4_slidersUnlike_16 rfl (lv_at hl 0 rfl) ?_
        refine va_get (D := (dC, dI)) (ci := 4) (v := .ref (a 9)) (C := RX4) (T := TX4) (N := 18) hx hb hts hin4 hown hK hP 0 rfl rfl 15 (by decide) (hts (.fieldLink RX4 36 "FeedDesk$State" "scenes" "[I") (List.mem_of_getElem? (i := 2) rfl)) (fun _ h9 => h9) rfl dX4_slidersUnlike_17 ?_
        refine lv_iload_n hx hb dX4_slidersUnlike_20 rfl (lv_at hl 1 rfl) ?_
        refine lv_bipush (v := 17) hx hb dX4_slidersUnlike_21 (by decide) ?_
        refine lv_imul hx hb dX4_slidersUnlike_23 ?_
        refine lv_iload_n hx hb dX4_slidersUnlike_24 rfl (lv_at hl 3 rfl) ?_
        refine lv_iadd hx hb dX4_slidersUnlike_25 ?_
        refine va_iald (f := M 8) hx hb hK hP 9 0 rfl rfl (by rw [ep1, ex3_4]; exact vp_of_B (ix_5 ip1 hip1 j_4 hj_4)) dX4_slidersUnlike_26 ?_
        refine lv_icmp_eq (tgt := 33) hx hb dX4_slidersUnlike_27 (by decide) (fun c2 => ?_) (fun c2 => ?_)
        · rw [if_pos c2] at hR
          refine lv_iinc (v := x3_4 + 1) (lv' := [(3, .int (x3_4 + 1)), (0, .ref (a 0)), (1, .int p1), (2, .int x2_4)]) hx hb dX4_slidersUnlike_33 hl (k := 3) rfl rfl (by decide) rfl (fun ls hl => ?_)
          refine lv_goto (tgt := 4) hx hb dX4_slidersUnlike_36 (by decide) ?_
          exact ih_4 (j_4 + 1) x2_4 (x3_4 + 1) (by rw [ex3_4, nI_1]) (by omega) (by omega) hR _ _ _ hP hS (lv_sub hl [1, 2, 3, 0] rfl)
        · rw [if_neg c2] at hR
          refine lv_iinc (v := x2_4 + 1) (lv' := [(2, .int (x2_4 + 1)), (0, .ref (a 0)), (1, .int p1), (3, .int x3_4)]) hx hb dX4_slidersUnlike_30 hl (k := 2) rfl rfl (by decide) rfl (fun ls hl => ?_)
          refine lv_iinc (v := x3_4 + 1) (lv' := [(3, .int (x3_4 + 1)), (2, .int (x2_4 + 1)), (0, .ref (a 0)), (1, .int p1)]) hx hb dX4_slidersUnlike_33 hl (k := 3) rfl rfl (by decide) rfl (fun ls hl => ?_)
          refine lv_goto (tgt := 4) hx hb dX4_slidersUnlike_36 (by decide) ?_
          exact ih_4 (j_4 + 1) (x2_4 + 1) (x3_4 + 1) (by rw [ex3_4, nI_1]) (by omega) (by omega) hR _ _ _ hP hS (lv_sub hl [2, 3, 1, 0] rfl)
  exact hL_4 17 0 0 0 (by decide +kernel) (by decide) (by decide) hR _ _ _ hP hS (lv_sub hl [2, 3, 1, 0] rfl)
