abbrev rm_X3_survey : Room := { frames := 4, cells := 0, slots := 0, locals := 87 }
def f_X3_survey_p17 (M : SR) (kb2 : Int32 → SR → SR) : Nat → Int32 → Int32 → SR → SR
  | 0, _, _, T_17 => T_17
  | n_17 + 1, x1_17, x2_17, T_17 => (if 4 ≤ x2_17 then kb2 (x1_17 + 1) T_17 else (if (f_X4_gainOf M x2_17 x1_17) ≤ 0 then (f_X3_survey_p17 M kb2 n_17) x1_17 (x2_17 + 1) T_17 else sLet (sU T_17 0 x1_17.toNatClampNeg ((T_17 0 x1_17.toNatClampNeg) ||| (1 <<< (x2_17 &&& 31)))) (fun Tn9 : SR => (f_X3_survey_p17 M kb2 n_17) x1_17 (x2_17 + 1) Tn9)))
def f_X3_survey_p2 (M : SR)  : Nat → Int32 → SR → SR
  | 0, _, T_2 => T_2
  | n_2 + 1, x1_2, T_2 => (if 12 ≤ x1_2 then T_2 else sLet (sU T_2 0 x1_2.toNatClampNeg 0) (fun Tn3 : SR => f_X3_survey_p17 M (f_X3_survey_p2 M n_2) 5 x1_2 0 Tn3))
def f_X3_survey (T : SR) (M : SR)  : SR := f_X3_survey_p2 M 13 0 T
set_option maxHeartbeats 4000000 in
set_option maxRecDepth 100000 in
theorem c_X3_survey (l : Launch) (dC : Nat → ClassId) (dI : Nat → Nat → Nat) (cI cC cS : ClassId) (a : Nat → Nat) (b : Nat → Nat) (T : SR) (M : SR) (sz : Nat)   : Met l yX3_survey wsX3_survey rm_X3_survey (PcG (dC, dI) (tyL cI cC cS) (cRt a b cI T ++ cSt b cI M) sz [.ref (a 0)]) (va_Qv (fun (u : SR) => u = f_X3_survey T M) (fun u U => va_P (dC, dI) vwCl (cRt a b cI u ++ cSt b cI M) U.heap ∧ va_D (va_A (cRt a b cI T ++ cSt b cI M) sz) (cRt a b cI u ++ cSt b cI M)) (va_A (cRt a b cI T ++ cSt b cI M) sz)) 0 0 (va_A (cRt a b cI T ++ cSt b cI M) sz) := by
  refine Met.ofW (cc := cX3_survey) (maxL := 3) (ret := none) (by decide) rfl ?_
  intro p e s m args below meth c s₁ B hml hv
  obtain ⟨rfl, hsz, hP, hK, hD0, hN⟩ := hv
  have hx := B.exec
  have hb := B.bytes
  have hr := B.returns
  have hts := atoms_spec (ws := wsX3_survey) B.pre
  have hown : s.vm.findClass RX3 = some m.cls := findClass_of_methodNamed B.named
  have hlocks := B.notSynchronized
  subst hsz
  have hD := hD0.self (sz := s.heap.size)
  have hA : ∀ q : Nat, s.heap.size ≤ q → (va_A (cRt a b cI T ++ cSt b cI M) s.heap.size) q := fun q h => Or.inr h
  have hS : va_S (va_A (cRt a b cI T ++ cSt b cI M) s.heap.size) s.heap s.heap [] := va_S.rf
  have hin3 : ∀ w ∈ wsX30, w ∈ wsX3_survey := fun _ h => List.mem_cons_of_mem _ (List.mem_append_left _ (List.mem_append_right _ h))
  have hl := lv_entry [.ref (a 0)] (n := 3) (Nat.le_of_ble_eq_true rfl)
  rw [lg_entry_eq]
  generalize (lg_sl [.ref (a 0)] ++ List.replicate (3 - (lg_sl [.ref (a 0)]).length) Slot.unset).toArray = ls at hl ⊢
  have hl : lv_has ls 3 [(0, .ref (a 0))] := hl
  obtain ⟨R0, eR⟩ : ∃ z, z = f_X3_survey T M := ⟨_, rfl⟩
  have hR := eR
  rw [f_X3_survey] at hR
  refine lv_iconst (v := 0) hx hb dX3_survey_0 (by decide) ?_
  refine lv_istore_n (lv' := [(1, .int 0), (0, .ref (a 0))]) hx hb dX3_survey_1 rfl hl (by decide) rfl (fun ls hl => ?_)
  have hL_2 : ∀ n_2 : Nat, ∀ (j_2 : Nat), ∀ (x1_2 : Int32) (T_2 : SR), x1_2 = nI j_2 → j_2 ≤ 12 → 12 < j_2 + n_2 → R0 = f_X3_survey_p2 M n_2 x1_2 T_2 → ∀ (H : Heap) (locs : List Loc) (ls : Array Slot), va_P (dC, dI) vwCl (cRt a b cI T_2 ++ cSt b cI M) H → va_D (va_A (cRt a b cI T ++ cSt b cI M) s.heap.size) (cRt a b cI T_2 ++ cSt b cI M) → va_S (va_A (cRt a b cI T ++ cSt b cI M) s.heap.size) s.heap H locs → lv_has ls 3 [(0, .ref (a 0)), (1, .int x1_2)] → W p l e (headSpec wsX3_survey rm_X3_survey).room s m ([.ref (a 0)] : List Value).toArray below meth c H locs 0 0 (MQ below (va_Qv (fun (u : SR) => u = f_X3_survey T M) (fun u U => va_P (dC, dI) vwCl (cRt a b cI u ++ cSt b cI M) U.heap ∧ va_D (va_A (cRt a b cI T ++ cSt b cI M) s.heap.size) (cRt a b cI u ++ cSt b cI M)) (va_A (cRt a b cI T ++ cSt b cI M) s.heap.size)) ([.ref (a 0)] : List Value).toArray s 0 0 (va_A (cRt a b cI T ++ cSt b cI M) s.heap.size)) (F0 m 2 ls []) := by
    intro n_2
    induction n_2 with
    | zero =>
      intro j_2 x1_2 T_2 ex1_2 hj0_2 hn_2
      exact absurd hn_2 (by omega)
    | succ n_2 ih_2 =>
      intro j_2 x1_2 T_2 ex1_2 hj0_2 hn_2 hR H locs ls hP hD hS hl
      rw [f_X3_survey_p2] at hR
      refine lv_iload_n hx hb dX3_survey_2 rfl (lv_at hl 1 rfl) ?_
      refine lv_bipush (v := 12) hx hb dX3_survey_3 (by decide) ?_
      refine lv_icmp_ge (tgt := 58) hx hb dX3_survey_5 (by decide) (fun c1 => ?_) (fun c1 => ?_)
      · rw [if_pos c1] at hR
        exact W.vret hx hb hr (fun t ht hWw => ⟨⟨T_2, rfl, hR.symm.trans eR, by rw [ht]; exact hP, hD⟩, hS.F ht⟩) hS.2.2 dX3_survey_58
      · rw [if_neg c1] at hR
        have hj_2 : j_2 < 12 := lp_ge ex1_2 (by decide +kernel) (by omega) (by omega) c1
        refine lv_aload_n hx hb dX3_survey_8 rfl (lv_at hl 0 rfl) ?_
        refine va_get (D := (dC, dI)) (ci := 3) (v := .ref (a 1)) (C := RX3) (T := TX3) (N := 4) hx hb hts hin3 hown hK hP 0 rfl rfl 1 (by decide) (hts (.fieldLink RX3 9 "FeedDesk$Routes" "reached" "[I") (List.mem_of_getElem? (i := 1) rfl)) (fun _ h9 => h9) rfl dX3_survey_9 ?_
        refine lv_iload_n hx hb dX3_survey_12 rfl (lv_at hl 1 rfl) ?_
        refine lv_iconst (v := 0) hx hb dX3_survey_13 (by decide) ?_
        refine va_iast (f := T_2 0) hx hb hK hP hD hS 1 0 rfl rfl (by rw [ex1_2]; exact vp_of_B (ix_1 j_2 hj_2)) dX3_survey_14 (fun H2 locs hP hD hS => ?_)
        have hP : va_P (dC, dI) vwCl (cRt a b cI (sU T_2 0 x1_2.toNatClampNeg 0) ++ cSt b cI M) H2 := hP
        have hD : va_D (va_A (cRt a b cI T ++ cSt b cI M) s.heap.size) (cRt a b cI (sU T_2 0 x1_2.toNatClampNeg 0) ++ cSt b cI M) := hD
        obtain ⟨Tn3, eTn3⟩ : ∃ z : SR, z = sU T_2 0 x1_2.toNatClampNeg 0 := ⟨_, rfl⟩
        rw [sLet_eq, ← eTn3] at hR
        rw [← eTn3] at hP hD
        refine lv_iconst (v := 0) hx hb dX3_survey_15 (by decide) ?_
        refine lv_istore_n (lv' := [(2, .int 0), (0, .ref (a 0)), (1, .int x1_2)]) hx hb dX3_survey_16 rfl hl (by decide) rfl (fun ls hl => ?_)
        have hL_17 : ∀ n_17 : Nat, ∀ (j_17 : Nat), ∀ (x1_17 : Int32) (x2_17 : Int32) (T_17 : SR), x2_17 = nI j_17 → j_17 ≤ 4 → 4 < j_17 + n_17 → x1_17 = nI j_2 → R0 = f_X3_survey_p17 M (f_X3_survey_p2 M n_2) n_17 x1_17 x2_17 T_17 → ∀ (H : Heap) (locs : List Loc) (ls : Array Slot), va_P (dC, dI) vwCl (cRt a b cI T_17 ++ cSt b cI M) H → va_D (va_A (cRt a b cI T ++ cSt b cI M) s.heap.size) (cRt a b cI T_17 ++ cSt b cI M) → va_S (va_A (cRt a b cI T ++ cSt b cI M) s.heap.size) s.heap H locs → lv_has ls 3 [(0, .ref (a 0)), (1, .int x1_17), (2, .int x2_17)] → W p l e (headSpec wsX3_survey rm_X3_survey).room s m ([.ref (a 0)] : List Value).toArray below meth c H locs 0 0 (MQ below (va_Qv (fun (u : SR) => u = f_X3_survey T M) (fun u U => va_P (dC, dI) vwCl (cRt a b cI u ++ cSt b cI M) U.heap ∧ va_D (va_A (cRt a b cI T ++ cSt b cI M) s.heap.size) (cRt a b cI u ++ cSt b cI M)) (va_A (cRt a b cI T ++ cSt b cI M) s.heap.size)) ([.ref (a 0)] : List Value).toArray s 0 0 (va_A (cRt a b cI T ++ cSt b cI M) s.heap.size)) (F0 m 17 ls []) := by
          intro n_17
          induction n_17 with
          | zero =>
            intro j_17 x1_17 x2_17 T_17 ex2_17 hj0_17 hn_17 ex1_17
            exact absurd hn_17 (by omega)
          | succ n_17 ih_17 =>
            intro j_17 x1_17 x2_17 T_17 ex2_17 hj0_17 hn_17 ex1_17 hR H locs ls hP hD hS hl
            rw [f_X3_survey_p17] at hR
            refine lv_iload_n hx hb dX3_survey_17 rfl (lv_at hl 2 rfl) ?_
            refine lv_iconst (v := 4) hx hb dX3_survey_18 (by decide) ?_
            refine lv_icmp_ge (tgt := 52) hx hb dX3_survey_19 (by decide) (fun c4 => ?_) (fun c4 => ?_)
            · rw [if_pos c4] at hR
              refine lv_iinc (v := x1_17 + 1) (lv' := [(1, .int (x1_17 + 1)), (0, .ref (a 0)), (2, .int x2_17)]) hx hb dX3_survey_52 hl (k := 1) rfl rfl (by decide) rfl (fun ls hl => ?_)
              refine lv_goto (tgt := 2) hx hb dX3_survey_55 (by decide) ?_
              exact ih_2 (j_2 + 1) (x1_17 + 1) T_17 (by rw [ex1_17, nI_1]) (by omega) (by omega) hR _ _ _ hP hD hS (lv_sub hl [1, 0] rfl)
            · rw [if_neg c4] at hR
              have hj_17 : j_17 < 4 := lp_ge ex2_17 (by decide +kernel) (by omega) (by omega) c4
              refine lv_aload_n hx hb dX3_survey_22 rfl (lv_at hl 0 rfl) ?_
              refine va_get (D := (dC, dI)) (ci := 3) (v := .ref (b 0)) (C := RX3) (T := TX3) (N := 4) hx hb hts hin3 hown hK hP 0 rfl rfl 0 (by decide) (hts (.fieldLink RX3 21 "FeedDesk$Routes" "desk" "LFeedDesk$State;") (List.mem_of_getElem? (i := 2) rfl)) (fun _ h9 => h9) rfl dX3_survey_23 ?_
              refine lv_iload_n hx hb dX3_survey_26 rfl (lv_at hl 2 rfl) ?_
              refine lv_iload_n hx hb dX3_survey_27 rfl (lv_at hl 1 rfl) ?_
              have hPc : va_P (dC, dI) vwCl (cSt b cI M) H := hP.sub [4, 5, 6, 7, 8, 9, 10, 11, 12, 13, 14, 15] rfl
              have hDc : va_D (va_A (cRt a b cI T ++ cSt b cI M) s.heap.size) (cSt b cI M) := hD.sub [4, 5, 6, 7, 8, 9, 10, 11, 12, 13, 14, 15] (by decide) rfl
              have hFc : ∀ q : Nat, va_A [] H.size q → (va_A (cRt a b cI T ++ cSt b cI M) s.heap.size) q := roF hS hA
              refine va_calli (va_runV (As := [.int x2_17, .int x1_17]) (rest := []) ⟨hx, hb, hml, hown, hts⟩ (c_X4_gainOf l dC dI cI cC cS b M H.size x2_17 x1_17 (by rw [ex2_17]; exact vp_of_B (ix_2 j_17 hj_17)) (by rw [ex1_17]; exact vp_of_B (ix_1 j_2 hj_2))) (cwV 2 hts gX3_survey_X4_gainOf rfl rfl rfl (by decide +kernel) ⟨Nat.le_of_ble_eq_true rfl, Nat.le_of_ble_eq_true rfl⟩) (pV (q0 := 0) hK hPc hDc hN rfl rfl) rfl rfl hl.1 rfl (lv_room (Nat.le_of_ble_eq_true rfl)) dX3_survey_28 ⟨Nat.le_of_ble_eq_true rfl, Nat.le_of_ble_eq_true rfl⟩) hS (fun q _ h => hFc q h) hFc (fun r_5 u_5 t_5 H6 locs ht hvm hw hB hz1 hk1 hS => ?_)
              subst hw
              have hP := ro_keep hP hk1
              refine lv_if_le (tgt := 46) hx hb dX3_survey_31 (by decide) (fun c7 => ?_) (fun c7 => ?_)
              · rw [if_pos c7] at hR
                refine lv_iinc (v := x2_17 + 1) (lv' := [(2, .int (x2_17 + 1)), (0, .ref (a 0)), (1, .int x1_17)]) hx hb dX3_survey_46 hl (k := 2) rfl rfl (by decide) rfl (fun ls hl => ?_)
                refine lv_goto (tgt := 17) hx hb dX3_survey_49 (by decide) ?_
                exact ih_17 (j_17 + 1) x1_17 (x2_17 + 1) T_17 (by rw [ex2_17, nI_1]) (by omega) (by omega) ex1_17 hR _ _ _ hP hD hS (lv_sub hl [1, 2, 0] rfl)
              · rw [if_neg c7] at hR
                refine lv_aload_n hx hb dX3_survey_34 rfl (lv_at hl 0 rfl) ?_
                refine va_get (D := (dC, dI)) (ci := 3) (v := .ref (a 1)) (C := RX3) (T := TX3) (N := 4) hx hb hts hin3 hown hK hP 0 rfl rfl 1 (by decide) (hts (.fieldLink RX3 9 "FeedDesk$Routes" "reached" "[I") (List.mem_of_getElem? (i := 1) rfl)) (fun _ h9 => h9) rfl dX3_survey_35 ?_
                refine lv_iload_n hx hb dX3_survey_38 rfl (lv_at hl 1 rfl) ?_
                refine lv_dup2_11 hx hb dX3_survey_39 rfl rfl ?_
                refine va_iald (f := T_17 0) hx hb hK hP 1 0 rfl rfl (by rw [ex1_17]; exact vp_of_B (ix_1 j_2 hj_2)) dX3_survey_40 ?_
                refine lv_iconst (v := 1) hx hb dX3_survey_41 (by decide) ?_
                refine lv_iload_n hx hb dX3_survey_42 rfl (lv_at hl 2 rfl) ?_
                refine lv_ishl hx hb dX3_survey_43 ?_
                refine lv_ior hx hb dX3_survey_44 ?_
                refine va_iast (f := T_17 0) hx hb hK hP hD hS 1 0 rfl rfl (by rw [ex1_17]; exact vp_of_B (ix_1 j_2 hj_2)) dX3_survey_45 (fun H8 locs hP hD hS => ?_)
                have hP : va_P (dC, dI) vwCl (cRt a b cI (sU T_17 0 x1_17.toNatClampNeg ((T_17 0 x1_17.toNatClampNeg) ||| (1 <<< (x2_17 &&& 31)))) ++ cSt b cI M) H8 := hP
                have hD : va_D (va_A (cRt a b cI T ++ cSt b cI M) s.heap.size) (cRt a b cI (sU T_17 0 x1_17.toNatClampNeg ((T_17 0 x1_17.toNatClampNeg) ||| (1 <<< (x2_17 &&& 31)))) ++ cSt b cI M) := hD
                obtain ⟨Tn9, eTn9⟩ : ∃ z : SR, z = sU T_17 0 x1_17.toNatClampNeg ((T_17 0 x1_17.toNatClampNeg) ||| (1 <<< (x2_17 &&& 31))) := ⟨_, rfl⟩
                rw [sLet_eq, ← eTn9] at hR
                rw [← eTn9] at hP hD
                refine lv_iinc (v := x2_17 + 1) (lv' := [(2, .int (x2_17 + 1)), (0, .ref (a 0)), (1, .int x1_17)]) hx hb dX3_survey_46 hl (k := 2) rfl rfl (by decide) rfl (fun ls hl => ?_)
                refine lv_goto (tgt := 17) hx hb dX3_survey_49 (by decide) ?_
                exact ih_17 (j_17 + 1) x1_17 (x2_17 + 1) Tn9 (by rw [ex2_17, nI_1]) (by omega) (by omega) ex1_17 hR _ _ _ hP hD hS (lv_sub hl [1, 2, 0] rfl)
        exact hL_17 5 0 x1_2 0 Tn3 (by decide +kernel) (by decide) (by decide) ex1_2 hR _ _ _ hP hD hS (lv_sub hl [1, 2, 0] rfl)
  exact hL_2 13 0 0 T (by decide +kernel) (by decide) (by decide) hR _ _ _ hP hD hS (lv_sub hl [1, 0] rfl)
abbrev rm_X3_feedsFrom : Room := { frames := 1, cells := 0, slots := 0, locals := 21 }
def f_X3_feedsFrom_p17 (T : SR) (M : SR) (p1 : Int32) (kb9 : Int32 → Int32 → Int32) : Nat → Int32 → Int32 → Int32 → Int32
  | 0, _, _, _ => 0
  | n_17 + 1, x2_17, x3_17, x4_17 => (if 4 ≤ x4_17 then kb9 x2_17 (x3_17 + 1) else (if (f_X5_hasBit x2_17 x4_17) = 0 then (f_X3_feedsFrom_p17 T M p1 kb9 n_17) x2_17 x3_17 (x4_17 + 1) else (if (M 5 x4_17.toNatClampNeg) < 0 then (f_X3_feedsFrom_p17 T M p1 kb9 n_17) x2_17 x3_17 (x4_17 + 1) else (f_X3_feedsFrom_p17 T M p1 kb9 n_17) (x2_17 ||| (T 0 (M 5 x4_17.toNatClampNeg).toNatClampNeg)) x3_17 (x4_17 + 1))))
def f_X3_feedsFrom_p9 (T : SR) (M : SR) (p1 : Int32)  : Nat → Int32 → Int32 → Int32
  | 0, _, _ => 0
  | n_9 + 1, x2_9, x3_9 => (if 4 < x3_9 then x2_9 else f_X3_feedsFrom_p17 T M p1 (f_X3_feedsFrom_p9 T M p1 n_9) 5 x2_9 x3_9 0)
def f_X3_feedsFrom (T : SR) (M : SR) (p1 : Int32) : Int32 := f_X3_feedsFrom_p9 T M p1 6 (T 0 p1.toNatClampNeg) 2
set_option maxHeartbeats 4000000 in
set_option maxRecDepth 100000 in
theorem c_X3_feedsFrom (l : Launch) (dC : Nat → ClassId) (dI : Nat → Nat → Nat) (cI cC cS : ClassId) (a : Nat → Nat) (b : Nat → Nat) (T : SR) (M : SR) (sz : Nat) (p1 : Int32) (h1 : vp_in p1 12) (hW : WF M) : Met l yX3_feedsFrom wsX3_feedsFrom rm_X3_feedsFrom (PcG (dC, dI) (tyL cI cC cS) (cRt a b cI T ++ cSt b cI M) sz [.ref (a 0), .int p1]) (va_Qi (fun (r : Int32) (_ : Unit) => r = f_X3_feedsFrom T M p1) (fun _ _ => True) (va_A [] sz)) 0 0 (va_A [] sz) := by
  refine Met.ofW (cc := cX3_feedsFrom) (maxL := 6) (ret := (some .int)) (by decide) rfl ?_
  intro p e s m args below meth c s₁ B hml hv
  obtain ⟨rfl, hsz, hP, hK, hD0, hN⟩ := hv
  have hx := B.exec
  have hb := B.bytes
  have hr := B.returns
  have hts := atoms_spec (ws := wsX3_feedsFrom) B.pre
  have hown : s.vm.findClass RX3 = some m.cls := findClass_of_methodNamed B.named
  have hlocks := B.notSynchronized
  subst hsz
  have hA : ∀ q : Nat, s.heap.size ≤ q → (va_A [] s.heap.size) q := fun q h => Or.inr h
  have hS : va_S (va_A [] s.heap.size) s.heap s.heap [] := va_S.rf
  have hin3 : ∀ w ∈ wsX30, w ∈ wsX3_feedsFrom := fun _ h => List.mem_cons_of_mem _ (List.mem_append_left _ (List.mem_append_right _ h))
  have hin4 : ∀ w ∈ wsX40, w ∈ wsX3_feedsFrom := fun _ h => List.mem_cons_of_mem _ (List.mem_append_right _ h)
  have hl := lv_entry [.ref (a 0), .int p1] (n := 6) (Nat.le_of_ble_eq_true rfl)
  rw [lg_entry_eq]
  generalize (lg_sl [.ref (a 0), .int p1] ++ List.replicate (6 - (lg_sl [.ref (a 0), .int p1]).length) Slot.unset).toArray = ls at hl ⊢
  have hl : lv_has ls 6 [(0, .ref (a 0)), (1, .int p1)] := hl
  obtain ⟨R0, eR⟩ : ∃ z, z = f_X3_feedsFrom T M p1 := ⟨_, rfl⟩
  have hR := eR
  rw [f_X3_feedsFrom] at hR
  refine lv_aload_n hx hb dX3_feedsFrom_0 rfl (lv_at hl 0 rfl) ?_
  refine va_get (D := (dC, dI)) (ci := 3) (v := .ref (a 1)) (C := RX3) (T := TX3) (N := 4) hx hb hts hin3 hown hK hP 0 rfl rfl 1 (by decide) (hts (.fieldLink RX3 9 "FeedDesk$Routes" "reached" "[I") (List.mem_of_getElem? (i := 1) rfl)) (fun _ h9 => h9) rfl dX3_feedsFrom_1 ?_
  refine lv_iload_n hx hb dX3_feedsFrom_4 rfl (lv_at hl 1 rfl) ?_
  refine va_iald (f := T 0) hx hb hK hP 1 0 rfl rfl h1 dX3_feedsFrom_5 ?_
  refine lv_istore_n (lv' := [(2, .int (T 0 p1.toNatClampNeg)), (0, .ref (a 0)), (1, .int p1)]) hx hb dX3_feedsFrom_6 rfl hl (by decide) rfl (fun ls hl => ?_)
  refine lv_iconst (v := 2) hx hb dX3_feedsFrom_7 (by decide) ?_
  refine lv_istore_n (lv' := [(3, .int 2), (2, .int (T 0 p1.toNatClampNeg)), (0, .ref (a 0)), (1, .int p1)]) hx hb dX3_feedsFrom_8 rfl hl (by decide) rfl (fun ls hl => ?_)
  have hL_9 : ∀ n_9 : Nat, ∀ (j_9 : Nat), ∀ (x2_9 : Int32) (x3_9 : Int32) , x3_9 = nI j_9 → j_9 ≤ 5 → 5 < j_9 + n_9 → R0 = f_X3_feedsFrom_p9 T M p1 n_9 x2_9 x3_9 → ∀ (H : Heap) (locs : List Loc) (ls : Array Slot), va_P (dC, dI) vwCl (cRt a b cI T ++ cSt b cI M) H → va_S (va_A [] s.heap.size) s.heap H locs → lv_has ls 6 [(0, .ref (a 0)), (1, .int p1), (2, .int x2_9), (3, .int x3_9)] → W p l e (headSpec wsX3_feedsFrom rm_X3_feedsFrom).room s m ([.ref (a 0), .int p1] : List Value).toArray below meth c H locs 0 0 (MQ below (va_Qi (fun (r : Int32) (_ : Unit) => r = f_X3_feedsFrom T M p1) (fun _ _ => True) (va_A [] s.heap.size)) ([.ref (a 0), .int p1] : List Value).toArray s 0 0 (va_A [] s.heap.size)) (F0 m 9 ls []) := by
    intro n_9
    induction n_9 with
    | zero =>
      intro j_9 x2_9 x3_9 ex3_9 hj0_9 hn_9
      exact absurd hn_9 (by omega)
    | succ n_9 ih_9 =>
      intro j_9 x2_9 x3_9 ex3_9 hj0_9 hn_9 hR H locs ls hP hS hl
      rw [f_X3_feedsFrom_p9] at hR
      refine lv_iload_n hx hb dX3_feedsFrom_9 rfl (lv_at hl 3 rfl) ?_
      refine lv_iconst (v := 4) hx hb dX3_feedsFrom_10 (by decide) ?_
      refine lv_icmp_gt (tgt := 71) hx hb dX3_feedsFrom_11 (by decide) (fun c1 => ?_) (fun c1 => ?_)
      · rw [if_pos c1] at hR
        refine lv_iload_n hx hb dX3_feedsFrom_71 rfl (lv_at hl 2 rfl) ?_
        exact W.iret (v := x2_9) hx hb hr (fun t ht hWw => ⟨⟨x2_9, (), rfl, hR.symm.trans eR, trivial⟩, hS.F ht⟩) hS.2.2 dX3_feedsFrom_72
      · rw [if_neg c1] at hR
        have hj_9 : j_9 < 5 := lp_gt ex3_9 (by decide +kernel) (by omega) (by omega) c1
        refine lv_iconst (v := 0) hx hb dX3_feedsFrom_14 (by decide) ?_
        refine lv_istore (lv' := [(4, .int 0), (0, .ref (a 0)), (1, .int p1), (2, .int x2_9), (3, .int x3_9)]) hx hb dX3_feedsFrom_15 hl (by decide) rfl (fun ls hl => ?_)
        have hL_17 : ∀ n_17 : Nat, ∀ (j_17 : Nat), ∀ (x2_17 : Int32) (x3_17 : Int32) (x4_17 : Int32) , x4_17 = nI j_17 → j_17 ≤ 4 → 4 < j_17 + n_17 → x3_17 = nI j_9 → R0 = f_X3_feedsFrom_p17 T M p1 (f_X3_feedsFrom_p9 T M p1 n_9) n_17 x2_17 x3_17 x4_17 → ∀ (H : Heap) (locs : List Loc) (ls : Array Slot), va_P (dC, dI) vwCl (cRt a b cI T ++ cSt b cI M) H → va_S (va_A [] s.heap.size) s.heap H locs → lv_has ls 6 [(0, .ref (a 0)), (1, .int p1), (2, .int x2_17), (3, .int x3_17), (4, .int x4_17)] → W p l e (headSpec wsX3_feedsFrom rm_X3_feedsFrom).room s m ([.ref (a 0), .int p1] : List Value).toArray below meth c H locs 0 0 (MQ below (va_Qi (fun (r : Int32) (_ : Unit) => r = f_X3_feedsFrom T M p1) (fun _ _ => True) (va_A [] s.heap.size)) ([.ref (a 0), .int p1] : List Value).toArray s 0 0 (va_A [] s.heap.size)) (F0 m 17 ls []) := by
          intro n_17
          induction n_17 with
          | zero =>
            intro j_17 x2_17 x3_17 x4_17 ex4_17 hj0_17 hn_17 ex3_17
            exact absurd hn_17 (by omega)
          | succ n_17 ih_17 =>
            intro j_17 x2_17 x3_17 x4_17 ex4_17 hj0_17 hn_17 ex3_17 hR H locs ls hP hS hl
            rw [f_X3_feedsFrom_p17] at hR
            refine lv_iload hx hb dX3_feedsFrom_17 (lv_at hl 4 rfl) ?_
            refine lv_iconst (v := 4) hx hb dX3_feedsFrom_19 (by decide) ?_
            refine lv_icmp_ge (tgt := 65) hx hb dX3_feedsFrom_20 (by decide) (fun c2 => ?_) (fun c2 => ?_)
            · rw [if_pos c2] at hR
              refine lv_iinc (v := x3_17 + 1) (lv' := [(3, .int (x3_17 + 1)), (0, .ref (a 0)), (1, .int p1), (2, .int x2_17), (4, .int x4_17)]) hx hb dX3_feedsFrom_65 hl (k := 3) rfl rfl (by decide) rfl (fun ls hl => ?_)
              refine lv_goto (tgt := 9) hx hb dX3_feedsFrom_68 (by decide) ?_
              exact ih_9 (j_9 + 1) x2_17 (x3_17 + 1) (by rw [ex3_17, nI_1]) (by omega) (by omega) hR _ _ _ hP hS (lv_sub hl [1, 2, 3, 0] rfl)
            · rw [if_neg c2] at hR
              have hj_17 : j_17 < 4 := lp_ge ex4_17 (by decide +kernel) (by omega) (by omega) c2
              refine lv_aload_n hx hb dX3_feedsFrom_23 rfl (lv_at hl 0 rfl) ?_
              refine va_get (D := (dC, dI)) (ci := 3) (v := .ref (b 0)) (C := RX3) (T := TX3) (N := 4) hx hb hts hin3 hown hK hP 0 rfl rfl 0 (by decide) (hts (.fieldLink RX3 21 "FeedDesk$Routes" "desk" "LFeedDesk$State;") (List.mem_of_getElem? (i := 2) rfl)) (fun _ h9 => h9) rfl dX3_feedsFrom_24 ?_
              refine va_getN (D := (dC, dI)) (ci := 4) (v := .ref (b 6)) (C := RX4) (T := TX4) (N := 18) hx hb hts hin4 hown hK hP 4 rfl rfl 8 (by decide) (va_Nw.use rfl (hN.at 24 rfl)) (fun _ h9 => h9) rfl dX3_feedsFrom_27 ?_
              refine lv_iload hx hb dX3_feedsFrom_30 (lv_at hl 4 rfl) ?_
              refine va_iald (f := M 5) hx hb hK hP 10 0 rfl rfl (by rw [ex4_17]; exact vp_of_B (ix_2 j_17 hj_17)) dX3_feedsFrom_32 ?_
              refine lv_istore (lv' := [(5, .int (M 5 x4_17.toNatClampNeg)), (0, .ref (a 0)), (1, .int p1), (2, .int x2_17), (3, .int x3_17), (4, .int x4_17)]) hx hb dX3_feedsFrom_33 hl (by decide) rfl (fun ls hl => ?_)
              refine lv_iload_n hx hb dX3_feedsFrom_35 rfl (lv_at hl 3 rfl) ?_
              refine lv_iload hx hb dX3_feedsFrom_36 (lv_at hl 5 rfl) ?_
              have hFc : ∀ q : Nat, va_A [] H.size q → (va_A [] s.heap.size) q := roF hS hA
              refine va_calli (va_runSN (As := [.int x2_17, .int x4_17]) (rest := []) ⟨hx, hb, hml, hown, hts⟩ (c_X5_hasBit l dC dI cI cC cS H.size x2_17 x4_17) ⟨va_cnB 2 hts gX3_feedsFrom_X5_hasBit_n34 rfl rfl rfl (hN.at 9 rfl) (hts (.initialized RX5) (List.mem_of_getElem? (i := 4) rfl)) (by decide +kernel) ⟨Nat.le_of_ble_eq_true rfl, Nat.le_of_ble_eq_true rfl⟩, (hts (.static yX5_hasBit) (List.mem_of_getElem? (i := 3) rfl)), trivial⟩ (pS hK (va_P_nil) (va_D_nil) hN) rfl rfl hl.1 rfl (lv_room (Nat.le_of_ble_eq_true rfl)) dX3_feedsFrom_38 ⟨Nat.le_of_ble_eq_true rfl, Nat.le_of_ble_eq_true rfl⟩) hS (fun q _ h => hFc q h) hFc (fun r_3 u_3 t_3 H4 locs ht hvm hw hB hz1 hk1 hS => ?_)
              obtain ⟨hw, hre5⟩ := hw
              subst hw
              have hP := ro_keep hP hk1
              refine lv_if_eq (tgt := 59) hx hb dX3_feedsFrom_41 (by decide) (fun c6 => ?_) (fun c6 => ?_)
              · rw [if_pos c6] at hR
                refine lv_iinc (v := x4_17 + 1) (lv' := [(4, .int (x4_17 + 1)), (5, .int (M 5 x4_17.toNatClampNeg)), (0, .ref (a 0)), (1, .int p1), (2, .int x2_17), (3, .int x3_17)]) hx hb dX3_feedsFrom_59 hl (k := 5) rfl rfl (by decide) rfl (fun ls hl => ?_)
                refine lv_goto (tgt := 17) hx hb dX3_feedsFrom_62 (by decide) ?_
                exact ih_17 (j_17 + 1) x2_17 x3_17 (x4_17 + 1) (by rw [ex4_17, nI_1]) (by omega) (by omega) ex3_17 hR _ _ _ hP hS (lv_sub hl [2, 3, 4, 5, 0] rfl)
              · rw [if_neg c6] at hR
                refine lv_iload hx hb dX3_feedsFrom_44 (lv_at hl 0 rfl) ?_
                refine lv_if_lt (tgt := 59) hx hb dX3_feedsFrom_46 (by decide) (fun c7 => ?_) (fun c7 => ?_)
                · rw [if_pos c7] at hR
                  refine lv_iinc (v := x4_17 + 1) (lv' := [(4, .int (x4_17 + 1)), (5, .int (M 5 x4_17.toNatClampNeg)), (0, .ref (a 0)), (1, .int p1), (2, .int x2_17), (3, .int x3_17)]) hx hb dX3_feedsFrom_59 hl (k := 5) rfl rfl (by decide) rfl (fun ls hl => ?_)
                  refine lv_goto (tgt := 17) hx hb dX3_feedsFrom_62 (by decide) ?_
                  exact ih_17 (j_17 + 1) x2_17 x3_17 (x4_17 + 1) (by rw [ex4_17, nI_1]) (by omega) (by omega) ex3_17 hR _ _ _ hP hS (lv_sub hl [2, 3, 4, 5, 0] rfl)
                · rw [if_neg c7] at hR
                  refine lv_iload_n hx hb dX3_feedsFrom_49 rfl (lv_at hl 3 rfl) ?_
                  refine lv_aload_n hx hb dX3_feedsFrom_50 rfl (lv_at hl 1 rfl) ?_
                  refine va_get (D := (dC, dI)) (ci := 3) (v := .ref (a 1)) (C := RX3) (T := TX3) (N := 4) hx hb hts hin3 hown hK hP 0 rfl rfl 1 (by decide) (hts (.fieldLink RX3 9 "FeedDesk$Routes" "reached" "[I") (List.mem_of_getElem? (i := 1) rfl)) (fun _ h9 => h9) rfl dX3_feedsFrom_51 ?_
                  refine lv_iload hx hb dX3_feedsFrom_54 (lv_at hl 0 rfl) ?_
                  refine va_iald (f := T 0) hx hb hK hP 1 0 rfl rfl (wf_ret hW ex4_17 hj_17 c7) dX3_feedsFrom_56 ?_
                  refine lv_ior hx hb dX3_feedsFrom_57 ?_
                  refine lv_istore_n (lv' := [(2, .int (x2_17 ||| (T 0 (M 5 x4_17.toNatClampNeg).toNatClampNeg))), (5, .int (M 5 x4_17.toNatClampNeg)), (0, .ref (a 0)), (1, .int p1), (3, .int x3_17), (4, .int x4_17)]) hx hb dX3_feedsFrom_58 rfl hl (by decide) rfl (fun ls hl => ?_)
                  refine lv_iinc (v := x4_17 + 1) (lv' := [(4, .int (x4_17 + 1)), (2, .int (x2_17 ||| (T 0 (M 5 x4_17.toNatClampNeg).toNatClampNeg))), (5, .int (M 5 x4_17.toNatClampNeg)), (0, .ref (a 0)), (1, .int p1), (3, .int x3_17)]) hx hb dX3_feedsFrom_59 hl (k := 5) rfl rfl (by decide) rfl (fun ls hl => ?_)
                  refine lv_goto (tgt := 17) hx hb dX3_feedsFrom_62 (by decide) ?_
                  exact ih_17 (j_17 + 1) (x2_17 ||| (T 0 (M 5 x4_17.toNatClampNeg).toNatClampNeg)) x3_17 (x4_17 + 1) (by rw [ex4_17, nI_1]) (by omega) (by omega) ex3_17 hR _ _ _ hP hS (lv_sub hl [3, 4, 1, 5, 0] rfl)
        exact hL_17 5 0 x2_9 x3_9 0 (by decide +kernel) (by decide) (by decide) ex3_9 hR _ _ _ hP hS (lv_sub hl [1, 2, 3, 4, 0] rfl)
  exact hL_9 6 2 (T 0 p1.toNatClampNeg) 2 (by decide +kernel) (by decide) (by decide) hR _ _ _ hP hS (lv_sub hl [2, 3, 1, 0] rfl)
abbrev rm_X3_feedsHearingBack : Room := { frames := 2, cells := 0, slots := 0, locals := 46 }
def f_X3_feedsHearingBack_p4 (T : SR) (M : SR)  : Nat → Int32 → Int32 → Int32
  | 0, _, _ => 0
  | n_4 + 1, x1_4, x2_4 => (if 4 ≤ x2_4 then x1_4 else (if (M 5 x2_4.toNatClampNeg) < 0 then (f_X3_feedsHearingBack_p4 T M n_4) x1_4 (x2_4 + 1) else (if (f_X5_hasBit (f_X3_feedsFrom T M (M 5 x2_4.toNatClampNeg)) x2_4) = 0 then (f_X3_feedsHearingBack_p4 T M n_4) x1_4 (x2_4 + 1) else (f_X3_feedsHearingBack_p4 T M n_4) (x1_4 ||| (1 <<< (x2_4 &&& 31))) (x2_4 + 1))))
def f_X3_feedsHearingBack (T : SR) (M : SR)  : Int32 := f_X3_feedsHearingBack_p4 T M 5 0 0
set_option maxHeartbeats 4000000 in
set_option maxRecDepth 100000 in
theorem c_X3_feedsHearingBack (l : Launch) (dC : Nat → ClassId) (dI : Nat → Nat → Nat) (cI cC cS : ClassId) (a : Nat → Nat) (b : Nat → Nat) (T : SR) (M : SR) (sz : Nat)  (hW : WF M) : Met l yX3_feedsHearingBack wsX3_feedsHearingBack rm_X3_feedsHearingBack (PcG (dC, dI) (tyL cI cC cS) (cRt a b cI T ++ cSt b cI M) sz [.ref (a 0)]) (va_Qi (fun (r : Int32) (_ : Unit) => r = f_X3_feedsHearingBack T M) (fun _ _ => True) (va_A [] sz)) 0 0 (va_A [] sz) := by
  refine Met.ofW (cc := cX3_feedsHearingBack) (maxL := 4) (ret := (some .int)) (by decide) rfl ?_
  intro p e s m args below meth c s₁ B hml hv
  obtain ⟨rfl, hsz, hP, hK, hD0, hN⟩ := hv
  have hx := B.exec
  have hb := B.bytes
  have hr := B.returns
  have hts := atoms_spec (ws := wsX3_feedsHearingBack) B.pre
  have hown : s.vm.findClass RX3 = some m.cls := findClass_of_methodNamed B.named
  have hlocks := B.notSynchronized
  subst hsz
  have hA : ∀ q : Nat, s.heap.size ≤ q → (va_A [] s.heap.size) q := fun q h => Or.inr h
  have hS : va_S (va_A [] s.heap.size) s.heap s.heap [] := va_S.rf
  have hin3 : ∀ w ∈ wsX30, w ∈ wsX3_feedsHearingBack := fun _ h => List.mem_cons_of_mem _ (List.mem_append_left _ (List.mem_append_right _ h))
  have hin4 : ∀ w ∈ wsX40, w ∈ wsX3_feedsHearingBack := fun _ h => List.mem_cons_of_mem _ (List.mem_append_right _ h)
  have hl := lv_entry [.ref (a 0)] (n := 4) (Nat.le_of_ble_eq_true rfl)
  rw [lg_entry_eq]
  generalize (lg_sl [.ref (a 0)] ++ List.replicate (4 - (lg_sl [.ref (a 0)]).length) Slot.unset).toArray = ls at hl ⊢
  have hl : lv_has ls 4 [(0, .ref (a 0))] := hl
  obtain ⟨R0, eR⟩ : ∃ z, z = f_X3_feedsHearingBack T M := ⟨_, rfl⟩
  have hR := eR
  rw [f_X3_feedsHearingBack] at hR
  refine lv_iconst (v := 0) hx hb dX3_feedsHearingBack_0 (by decide) ?_
  refine lv_istore_n (lv' := [(1, .int 0), (0, .ref (a 0))]) hx hb dX3_feedsHearingBack_1 rfl hl (by decide) rfl (fun ls hl => ?_)
  refine lv_iconst (v := 0) hx hb dX3_feedsHearingBack_2 (by decide) ?_
  refine lv_istore_n (lv' := [(2, .int 0), (1, .int 0), (0, .ref (a 0))]) hx hb dX3_feedsHearingBack_3 rfl hl (by decide) rfl (fun ls hl => ?_)
  have hL_4 : ∀ n_4 : Nat, ∀ (j_4 : Nat), ∀ (x1_4 : Int32) (x2_4 : Int32) , x2_4 = nI j_4 → j_4 ≤ 4 → 4 < j_4 + n_4 → R0 = f_X3_feedsHearingBack_p4 T M n_4 x1_4 x2_4 → ∀ (H : Heap) (locs : List Loc) (ls : Array Slot), va_P (dC, dI) vwCl (cRt a b cI T ++ cSt b cI M) H → va_S (va_A [] s.heap.size) s.heap H locs → lv_has ls 4 [(0, .ref (a 0)), (1, .int x1_4), (2, .int x2_4)] → W p l e (headSpec wsX3_feedsHearingBack rm_X3_feedsHearingBack).room s m ([.ref (a 0)] : List Value).toArray below meth c H locs 0 0 (MQ below (va_Qi (fun (r : Int32) (_ : Unit) => r = f_X3_feedsHearingBack T M) (fun _ _ => True) (va_A [] s.heap.size)) ([.ref (a 0)] : List Value).toArray s 0 0 (va_A [] s.heap.size)) (F0 m 4 ls []) := by
    intro n_4
    induction n_4 with
    | zero =>
      intro j_4 x1_4 x2_4 ex2_4 hj0_4 hn_4
      exact absurd hn_4 (by omega)
    | succ n_4 ih_4 =>
      intro j_4 x1_4 x2_4 ex2_4 hj0_4 hn_4 hR H locs ls hP hS hl
      rw [f_X3_feedsHearingBack_p4] at hR
      refine lv_iload_n hx hb dX3_feedsHearingBack_4 rfl (lv_at hl 2 rfl) ?_
      refine lv_iconst (v := 4) hx hb dX3_feedsHearingBack_5 (by decide) ?_
      refine lv_icmp_ge (tgt := 47) hx hb dX3_feedsHearingBack_6 (by decide) (fun c1 => ?_) (fun c1 => ?_)
      · rw [if_pos c1] at hR
        refine lv_iload_n hx hb dX3_feedsHearingBack_47 rfl (lv_at hl 1 rfl) ?_
        exact W.iret (v := x1_4) hx hb hr (fun t ht hWw => ⟨⟨x1_4, (), rfl, hR.symm.trans eR, trivial⟩, hS.F ht⟩) hS.2.2 dX3_feedsHearingBack_48
      · rw [if_neg c1] at hR
        have hj_4 : j_4 < 4 := lp_ge ex2_4 (by decide +kernel) (by omega) (by omega) c1
        refine lv_aload_n hx hb dX3_feedsHearingBack_9 rfl (lv_at hl 0 rfl) ?_
        refine va_get (D := (dC, dI)) (ci := 3) (v := .ref (b 0)) (C := RX3) (T := TX3) (N := 4) hx hb hts hin3 hown hK hP 0 rfl rfl 0 (by decide) (hts (.fieldLink RX3 21 "FeedDesk$Routes" "desk" "LFeedDesk$State;") (List.mem_of_getElem? (i := 1) rfl)) (fun _ h9 => h9) rfl dX3_feedsHearingBack_10 ?_
        refine va_getN (D := (dC, dI)) (ci := 4) (v := .ref (b 6)) (C := RX4) (T := TX4) (N := 18) hx hb hts hin4 hown hK hP 4 rfl rfl 8 (by decide) (va_Nw.use rfl (hN.at 24 rfl)) (fun _ h9 => h9) rfl dX3_feedsHearingBack_13 ?_
        refine lv_iload_n hx hb dX3_feedsHearingBack_16 rfl (lv_at hl 2 rfl) ?_
        refine va_iald (f := M 5) hx hb hK hP 10 0 rfl rfl (by rw [ex2_4]; exact vp_of_B (ix_2 j_4 hj_4)) dX3_feedsHearingBack_17 ?_
        refine lv_istore_n (lv' := [(3, .int (M 5 x2_4.toNatClampNeg)), (0, .ref (a 0)), (1, .int x1_4), (2, .int x2_4)]) hx hb dX3_feedsHearingBack_18 rfl hl (by decide) rfl (fun ls hl => ?_)
        refine lv_iload_n hx hb dX3_feedsHearingBack_19 rfl (lv_at hl 0 rfl) ?_
        refine lv_if_lt (tgt := 41) hx hb dX3_feedsHearingBack_20 (by decide) (fun c2 => ?_) (fun c2 => ?_)
        · rw [if_pos c2] at hR
          refine lv_iinc (v := x2_4 + 1) (lv' := [(2, .int (x2_4 + 1)), (3, .int (M 5 x2_4.toNatClampNeg)), (0, .ref (a 0)), (1, .int x1_4)]) hx hb dX3_feedsHearingBack_41 hl (k := 3) rfl rfl (by decide) rfl (fun ls hl => ?_)
          refine lv_goto (tgt := 4) hx hb dX3_feedsHearingBack_44 (by decide) ?_
          exact ih_4 (j_4 + 1) x1_4 (x2_4 + 1) (by rw [ex2_4, nI_1]) (by omega) (by omega) hR _ _ _ hP hS (lv_sub hl [2, 3, 0] rfl)
        · rw [if_neg c2] at hR
          refine lv_aload_n hx hb dX3_feedsHearingBack_23 rfl (lv_at hl 1 rfl) ?_
          refine lv_iload_n hx hb dX3_feedsHearingBack_24 rfl (lv_at hl 0 rfl) ?_
          have hPc : va_P (dC, dI) vwCl (cRt a b cI T ++ cSt b cI M) H := hP.sub [0, 1, 2, 3, 4, 5, 6, 7, 8, 9, 10, 11, 12, 13, 14, 15] rfl
          have hDc : va_D (fun _ => True) (cRt a b cI T ++ cSt b cI M) := hD0.sub [0, 1, 2, 3, 4, 5, 6, 7, 8, 9, 10, 11, 12, 13, 14, 15] (by decide) rfl
          have hFc : ∀ q : Nat, va_A [] H.size q → (va_A [] s.heap.size) q := roF hS hA
          refine va_calli (va_runV (As := [.int (M 5 x2_4.toNatClampNeg)]) (rest := []) ⟨hx, hb, hml, hown, hts⟩ (c_X3_feedsFrom l dC dI cI cC cS a b T M H.size (M 5 x2_4.toNatClampNeg) (wf_ret hW ex2_4 hj_4 c2) hW) (cwV 1 hts gX3_feedsHearingBack_X3_feedsFrom rfl rfl rfl (by decide +kernel) ⟨Nat.le_of_ble_eq_true rfl, Nat.le_of_ble_eq_true rfl⟩) (pV (q0 := 0) hK hPc hDc hN rfl rfl) rfl rfl hl.1 rfl (lv_room (Nat.le_of_ble_eq_true rfl)) dX3_feedsHearingBack_25 ⟨Nat.le_of_ble_eq_true rfl, Nat.le_of_ble_eq_true rfl⟩) hS (fun q _ h => hFc q h) hFc (fun r_3 u_3 t_3 H4 locs ht hvm hw hB hz1 hk1 hS => ?_)
          subst hw
          have hP := ro_keep hP hk1
          refine lv_iload_n hx hb dX3_feedsHearingBack_28 rfl (lv_at hl 3 rfl) ?_
          have hFc : ∀ q : Nat, va_A [] H4.size q → (va_A [] s.heap.size) q := roF hS hA
          refine va_calli (va_runSN (As := [.int (f_X3_feedsFrom T M (M 5 x2_4.toNatClampNeg)), .int x2_4]) (rest := []) ⟨hx, hb, hml, hown, hts⟩ (c_X5_hasBit l dC dI cI cC cS H4.size (f_X3_feedsFrom T M (M 5 x2_4.toNatClampNeg)) x2_4) ⟨va_cnB 2 hts gX3_feedsHearingBack_X5_hasBit_n34 rfl rfl rfl (hN.at 9 rfl) (hts (.initialized RX5) (List.mem_of_getElem? (i := 9) rfl)) (by decide +kernel) ⟨Nat.le_of_ble_eq_true rfl, Nat.le_of_ble_eq_true rfl⟩, (hts (.static yX5_hasBit) (List.mem_of_getElem? (i := 8) rfl)), trivial⟩ (pS hK (va_P_nil) (va_D_nil) hN) rfl rfl hl.1 rfl (lv_room (Nat.le_of_ble_eq_true rfl)) dX3_feedsHearingBack_29 ⟨Nat.le_of_ble_eq_true rfl, Nat.le_of_ble_eq_true rfl⟩) hS (fun q _ h => hFc q h) hFc (fun r_5 u_5 t_5 H6 locs ht hvm hw hB hz1 hk1 hS => ?_)
          obtain ⟨hw, hre7⟩ := hw
          subst hw
          have hP := ro_keep hP hk1
          refine lv_if_eq (tgt := 41) hx hb dX3_feedsHearingBack_32 (by decide) (fun c8 => ?_) (fun c8 => ?_)
          · rw [if_pos c8] at hR
            refine lv_iinc (v := x2_4 + 1) (lv' := [(2, .int (x2_4 + 1)), (3, .int (M 5 x2_4.toNatClampNeg)), (0, .ref (a 0)), (1, .int x1_4)]) hx hb dX3_feedsHearingBack_41 hl (k := 3) rfl rfl (by decide) rfl (fun ls hl => ?_)
            refine lv_goto (tgt := 4) hx hb dX3_feedsHearingBack_44 (by decide) ?_
            exact ih_4 (j_4 + 1) x1_4 (x2_4 + 1) (by rw [ex2_4, nI_1]) (by omega) (by omega) hR _ _ _ hP hS (lv_sub hl [2, 3, 0] rfl)
          · rw [if_neg c8] at hR
            refine lv_iload_n hx hb dX3_feedsHearingBack_35 rfl (lv_at hl 2 rfl) ?_
            refine lv_iconst (v := 1) hx hb dX3_feedsHearingBack_36 (by decide) ?_
            refine lv_iload_n hx hb dX3_feedsHearingBack_37 rfl (lv_at hl 3 rfl) ?_
            refine lv_ishl hx hb dX3_feedsHearingBack_38 ?_
            refine lv_ior hx hb dX3_feedsHearingBack_39 ?_
            refine lv_istore_n (lv' := [(1, .int (x1_4 ||| (1 <<< (x2_4 &&& 31)))), (3, .int (M 5 x2_4.toNatClampNeg)), (0, .ref (a 0)), (2, .int x2_4)]) hx hb dX3_feedsHearingBack_40 rfl hl (by decide) rfl (fun ls hl => ?_)
            refine lv_iinc (v := x2_4 + 1) (lv' := [(2, .int (x2_4 + 1)), (1, .int (x1_4 ||| (1 <<< (x2_4 &&& 31)))), (3, .int (M 5 x2_4.toNatClampNeg)), (0, .ref (a 0))]) hx hb dX3_feedsHearingBack_41 hl (k := 3) rfl rfl (by decide) rfl (fun ls hl => ?_)
            refine lv_goto (tgt := 4) hx hb dX3_feedsHearingBack_44 (by decide) ?_
            exact ih_4 (j_4 + 1) (x1_4 ||| (1 <<< (x2_4 &&& 31))) (x2_4 + 1) (by rw [ex2_4, nI_1]) (by omega) (by omega) hR _ _ _ hP hS (lv_sub hl [3, 1, 0] rfl)
  exact hL_4 5 0 0 0 (by decide +kernel) (by decide) (by decide) hR _ _ _ hP hS (lv_sub hl [2, 1, 0] rfl)
abbrev rm_X3_ownersHearing : Room := { frames := 2, cells := 0, slots := 0, locals := 46 }
def f_X3_ownersHearing_p4 (T : SR) (M : SR) (p1 : Int32)  : Nat → Int32 → Int32 → Int32
  | 0, _, _ => 0
  | n_4 + 1, x2_4, x3_4 => (if 12 ≤ x3_4 then x2_4 else (if (f_X5_hasBit (M 4 p1.toNatClampNeg) x3_4) = 0 then (f_X3_ownersHearing_p4 T M p1 n_4) x2_4 (x3_4 + 1) else (if (f_X5_hasBit (f_X3_feedsFrom T M x3_4) p1) = 0 then (f_X3_ownersHearing_p4 T M p1 n_4) x2_4 (x3_4 + 1) else (f_X3_ownersHearing_p4 T M p1 n_4) (x2_4 ||| (1 <<< (x3_4 &&& 31))) (x3_4 + 1))))
def f_X3_ownersHearing (T : SR) (M : SR) (p1 : Int32) : Int32 := f_X3_ownersHearing_p4 T M p1 13 0 0
set_option maxHeartbeats 4000000 in
set_option maxRecDepth 100000 in
theorem c_X3_ownersHearing (l : Launch) (dC : Nat → ClassId) (dI : Nat → Nat → Nat) (cI cC cS : ClassId) (a : Nat → Nat) (b : Nat → Nat) (T : SR) (M : SR) (sz : Nat) (p1 : Int32) (h1 : vp_in p1 4) (hW : WF M) : Met l yX3_ownersHearing wsX3_ownersHearing rm_X3_ownersHearing (PcG (dC, dI) (tyL cI cC cS) (cRt a b cI T ++ cSt b cI M) sz [.ref (a 0), .int p1]) (va_Qi (fun (r : Int32) (_ : Unit) => r = f_X3_ownersHearing T M p1) (fun _ _ => True) (va_A [] sz)) 0 0 (va_A [] sz) := by
  refine Met.ofW (cc := cX3_ownersHearing) (maxL := 5) (ret := (some .int)) (by decide) rfl ?_
  intro p e s m args below meth c s₁ B hml hv
  obtain ⟨rfl, hsz, hP, hK, hD0, hN⟩ := hv
  have hx := B.exec
  have hb := B.bytes
  have hr := B.returns
  have hts := atoms_spec (ws := wsX3_ownersHearing) B.pre
  have hown : s.vm.findClass RX3 = some m.cls := findClass_of_methodNamed B.named
  have hlocks := B.notSynchronized
  subst hsz
  have hA : ∀ q : Nat, s.heap.size ≤ q → (va_A [] s.heap.size) q := fun q h => Or.inr h
  have hS : va_S (va_A [] s.heap.size) s.heap s.heap [] := va_S.rf
  have hin3 : ∀ w ∈ wsX30, w ∈ wsX3_ownersHearing := fun _ h => List.mem_cons_of_mem _ (List.mem_append_left _ (List.mem_append_right _ h))
  have hin4 : ∀ w ∈ wsX40, w ∈ wsX3_ownersHearing := fun _ h => List.mem_cons_of_mem _ (List.mem_append_right _ h)
  have hl := lv_entry [.ref (a 0), .int p1] (n := 5) (Nat.le_of_ble_eq_true rfl)
  rw [lg_entry_eq]
  generalize (lg_sl [.ref (a 0), .int p1] ++ List.replicate (5 - (lg_sl [.ref (a 0), .int p1]).length) Slot.unset).toArray = ls at hl ⊢
  have hl : lv_has ls 5 [(0, .ref (a 0)), (1, .int p1)] := hl
  obtain ⟨R0, eR⟩ : ∃ z, z = f_X3_ownersHearing T M p1 := ⟨_, rfl⟩
  have hR := eR
  rw [f_X3_ownersHearing] at hR
  refine lv_iconst (v := 0) hx hb dX3_ownersHearing_0 (by decide) ?_
  refine lv_istore_n (lv' := [(2, .int 0), (0, .ref (a 0)), (1, .int p1)]) hx hb dX3_ownersHearing_1 rfl hl (by decide) rfl (fun ls hl => ?_)
  refine lv_iconst (v := 0) hx hb dX3_ownersHearing_2 (by decide) ?_
  refine lv_istore_n (lv' := [(3, .int 0), (2, .int 0), (0, .ref (a 0)), (1, .int p1)]) hx hb dX3_ownersHearing_3 rfl hl (by decide) rfl (fun ls hl => ?_)
  have hL_4 : ∀ n_4 : Nat, ∀ (j_4 : Nat), ∀ (x2_4 : Int32) (x3_4 : Int32) , x3_4 = nI j_4 → j_4 ≤ 12 → 12 < j_4 + n_4 → R0 = f_X3_ownersHearing_p4 T M p1 n_4 x2_4 x3_4 → ∀ (H : Heap) (locs : List Loc) (ls : Array Slot), va_P (dC, dI) vwCl (cRt a b cI T ++ cSt b cI M) H → va_S (va_A [] s.heap.size) s.heap H locs → lv_has ls 5 [(0, .ref (a 0)), (1, .int p1), (2, .int x2_4), (3, .int x3_4)] → W p l e (headSpec wsX3_ownersHearing rm_X3_ownersHearing).room s m ([.ref (a 0), .int p1] : List Value).toArray below meth c H locs 0 0 (MQ below (va_Qi (fun (r : Int32) (_ : Unit) => r = f_X3_ownersHearing T M p1) (fun _ _ => True) (va_A [] s.heap.size)) ([.ref (a 0), .int p1] : List Value).toArray s 0 0 (va_A [] s.heap.size)) (F0 m 4 ls []) := by
    intro n_4
    induction n_4 with
    | zero =>
      intro j_4 x2_4 x3_4 ex3_4 hj0_4 hn_4
      exact absurd hn_4 (by omega)
    | succ n_4 ih_4 =>
      intro j_4 x2_4 x3_4 ex3_4 hj0_4 hn_4 hR H locs ls hP hS hl
      rw [f_X3_ownersHearing_p4] at hR
      refine lv_iload_n hx hb dX3_ownersHearing_4 rfl (lv_at hl 3 rfl) ?_
      refine lv_bipush (v := 12) hx hb dX3_ownersHearing_5 (by decide) ?_
      refine lv_icmp_ge (tgt := 54) hx hb dX3_ownersHearing_7 (by decide) (fun c1 => ?_) (fun c1 => ?_)
      · rw [if_pos c1] at hR
        refine lv_iload_n hx hb dX3_ownersHearing_54 rfl (lv_at hl 2 rfl) ?_
        exact W.iret (v := x2_4) hx hb hr (fun t ht hWw => ⟨⟨x2_4, (), rfl, hR.symm.trans eR, trivial⟩, hS.F ht⟩) hS.2.2 dX3_ownersHearing_55
      · rw [if_neg c1] at hR
        have hj_4 : j_4 < 12 := lp_ge ex3_4 (by decide +kernel) (by omega) (by omega) c1
        refine lv_aload_n hx hb dX3_ownersHearing_10 rfl (lv_at hl 0 rfl) ?_
        refine va_get (D := (dC, dI)) (ci := 3) (v := .ref (b 0)) (C := RX3) (T := TX3) (N := 4) hx hb hts hin3 hown hK hP 0 rfl rfl 0 (by decide) (hts (.fieldLink RX3 21 "FeedDesk$Routes" "desk" "LFeedDesk$State;") (List.mem_of_getElem? (i := 1) rfl)) (fun _ h9 => h9) rfl dX3_ownersHearing_11 ?_
        refine va_getN (D := (dC, dI)) (ci := 4) (v := .ref (b 5)) (C := RX4) (T := TX4) (N := 18) hx hb hts hin4 hown hK hP 4 rfl rfl 7 (by decide) (va_Nw.use rfl (hN.at 22 rfl)) (fun _ h9 => h9) rfl dX3_ownersHearing_14 ?_
        refine lv_iload_n hx hb dX3_ownersHearing_17 rfl (lv_at hl 1 rfl) ?_
        refine va_iald (f := M 4) hx hb hK hP 9 0 rfl rfl h1 dX3_ownersHearing_18 ?_
        refine lv_iload_n hx hb dX3_ownersHearing_19 rfl (lv_at hl 3 rfl) ?_
        have hFc : ∀ q : Nat, va_A [] H.size q → (va_A [] s.heap.size) q := roF hS hA
        refine va_calli (va_runSN (As := [.int (M 4 p1.toNatClampNeg), .int x3_4]) (rest := []) ⟨hx, hb, hml, hown, hts⟩ (c_X5_hasBit l dC dI cI cC cS H.size (M 4 p1.toNatClampNeg) x3_4) ⟨va_cnB 2 hts gX3_ownersHearing_X5_hasBit_n34 rfl rfl rfl (hN.at 9 rfl) (hts (.initialized RX5) (List.mem_of_getElem? (i := 3) rfl)) (by decide +kernel) ⟨Nat.le_of_ble_eq_true rfl, Nat.le_of_ble_eq_true rfl⟩, (hts (.static yX5_hasBit) (List.mem_of_getElem? (i := 2) rfl)), trivial⟩ (pS hK (va_P_nil) (va_D_nil) hN) rfl rfl hl.1 rfl (lv_room (Nat.le_of_ble_eq_true rfl)) dX3_ownersHearing_20 ⟨Nat.le_of_ble_eq_true rfl, Nat.le_of_ble_eq_true rfl⟩) hS (fun q _ h => hFc q h) hFc (fun r_2 u_2 t_2 H3 locs ht hvm hw hB hz1 hk1 hS => ?_)
        obtain ⟨hw, hre4⟩ := hw
        subst hw
        have hP := ro_keep hP hk1
        refine lv_istore (lv' := [(4, .int (f_X5_hasBit (M 4 p1.toNatClampNeg) x3_4)), (0, .ref (a 0)), (1, .int p1), (2, .int x2_4), (3, .int x3_4)]) hx hb dX3_ownersHearing_23 hl (by decide) rfl (fun ls hl => ?_)
        refine lv_iload hx hb dX3_ownersHearing_25 (lv_at hl 0 rfl) ?_
        refine lv_if_eq (tgt := 48) hx hb dX3_ownersHearing_27 (by decide) (fun c5 => ?_) (fun c5 => ?_)
        · rw [if_pos c5] at hR
          refine lv_iinc (v := x3_4 + 1) (lv' := [(3, .int (x3_4 + 1)), (4, .int (f_X5_hasBit (M 4 p1.toNatClampNeg) x3_4)), (0, .ref (a 0)), (1, .int p1), (2, .int x2_4)]) hx hb dX3_ownersHearing_48 hl (k := 4) rfl rfl (by decide) rfl (fun ls hl => ?_)
          refine lv_goto (tgt := 4) hx hb dX3_ownersHearing_51 (by decide) ?_
          exact ih_4 (j_4 + 1) x2_4 (x3_4 + 1) (by rw [ex3_4, nI_1]) (by omega) (by omega) hR _ _ _ hP hS (lv_sub hl [2, 3, 4, 0] rfl)
        · rw [if_neg c5] at hR
          refine lv_aload_n hx hb dX3_ownersHearing_30 rfl (lv_at hl 1 rfl) ?_
          refine lv_iload_n hx hb dX3_ownersHearing_31 rfl (lv_at hl 4 rfl) ?_
          have hPc : va_P (dC, dI) vwCl (cRt a b cI T ++ cSt b cI M) H3 := hP.sub [0, 1, 2, 3, 4, 5, 6, 7, 8, 9, 10, 11, 12, 13, 14, 15] rfl
          have hDc : va_D (fun _ => True) (cRt a b cI T ++ cSt b cI M) := hD0.sub [0, 1, 2, 3, 4, 5, 6, 7, 8, 9, 10, 11, 12, 13, 14, 15] (by decide) rfl
          have hFc : ∀ q : Nat, va_A [] H3.size q → (va_A [] s.heap.size) q := roF hS hA
          refine va_calli (va_runV (As := [.int x3_4]) (rest := []) ⟨hx, hb, hml, hown, hts⟩ (c_X3_feedsFrom l dC dI cI cC cS a b T M H3.size x3_4 (by rw [ex3_4]; exact vp_of_B (ix_1 j_4 hj_4)) hW) (cwV 1 hts gX3_ownersHearing_X3_feedsFrom rfl rfl rfl (by decide +kernel) ⟨Nat.le_of_ble_eq_true rfl, Nat.le_of_ble_eq_true rfl⟩) (pV (q0 := 0) hK hPc hDc hN rfl rfl) rfl rfl hl.1 rfl (lv_room (Nat.le_of_ble_eq_true rfl)) dX3_ownersHearing_32 ⟨Nat.le_of_ble_eq_true rfl, Nat.le_of_ble_eq_true rfl⟩) hS (fun q _ h => hFc q h) hFc (fun r_6 u_6 t_6 H7 locs ht hvm hw hB hz1 hk1 hS => ?_)
          subst hw
          have hP := ro_keep hP hk1
          refine lv_iload_n hx hb dX3_ownersHearing_35 rfl (lv_at hl 2 rfl) ?_
          have hFc : ∀ q : Nat, va_A [] H7.size q → (va_A [] s.heap.size) q := roF hS hA
          refine va_calli (va_runSN (As := [.int (f_X3_feedsFrom T M x3_4), .int p1]) (rest := []) ⟨hx, hb, hml, hown, hts⟩ (c_X5_hasBit l dC dI cI cC cS H7.size (f_X3_feedsFrom T M x3_4) p1) ⟨va_cnB 2 hts gX3_ownersHearing_X5_hasBit_n34 rfl rfl rfl (hN.at 9 rfl) (hts (.initialized RX5) (List.mem_of_getElem? (i := 3) rfl)) (by decide +kernel) ⟨Nat.le_of_ble_eq_true rfl, Nat.le_of_ble_eq_true rfl⟩, (hts (.static yX5_hasBit) (List.mem_of_getElem? (i := 2) rfl)), trivial⟩ (pS hK (va_P_nil) (va_D_nil) hN) rfl rfl hl.1 rfl (lv_room (Nat.le_of_ble_eq_true rfl)) dX3_ownersHearing_36 ⟨Nat.le_of_ble_eq_true rfl, Nat.le_of_ble_eq_true rfl⟩) hS (fun q _ h => hFc q h) hFc (fun r_8 u_8 t_8 H9 locs ht hvm hw hB hz1 hk1 hS => ?_)
          obtain ⟨hw, hre10⟩ := hw
          subst hw
          have hP := ro_keep hP hk1
          refine lv_if_eq (tgt := 48) hx hb dX3_ownersHearing_39 (by decide) (fun c11 => ?_) (fun c11 => ?_)
          · rw [if_pos c11] at hR
            refine lv_iinc (v := x3_4 + 1) (lv' := [(3, .int (x3_4 + 1)), (4, .int (f_X5_hasBit (M 4 p1.toNatClampNeg) x3_4)), (0, .ref (a 0)), (1, .int p1), (2, .int x2_4)]) hx hb dX3_ownersHearing_48 hl (k := 4) rfl rfl (by decide) rfl (fun ls hl => ?_)
            refine lv_goto (tgt := 4) hx hb dX3_ownersHearing_51 (by decide) ?_
            exact ih_4 (j_4 + 1) x2_4 (x3_4 + 1) (by rw [ex3_4, nI_1]) (by omega) (by omega) hR _ _ _ hP hS (lv_sub hl [2, 3, 4, 0] rfl)
          · rw [if_neg c11] at hR
            refine lv_iload_n hx hb dX3_ownersHearing_42 rfl (lv_at hl 3 rfl) ?_
            refine lv_iconst (v := 1) hx hb dX3_ownersHearing_43 (by decide) ?_
            refine lv_iload_n hx hb dX3_ownersHearing_44 rfl (lv_at hl 4 rfl) ?_
            refine lv_ishl hx hb dX3_ownersHearing_45 ?_
            refine lv_ior hx hb dX3_ownersHearing_46 ?_
            refine lv_istore_n (lv' := [(2, .int (x2_4 ||| (1 <<< (x3_4 &&& 31)))), (4, .int (f_X5_hasBit (M 4 p1.toNatClampNeg) x3_4)), (0, .ref (a 0)), (1, .int p1), (3, .int x3_4)]) hx hb dX3_ownersHearing_47 rfl hl (by decide) rfl (fun ls hl => ?_)
            refine lv_iinc (v := x3_4 + 1) (lv' := [(3, .int (x3_4 + 1)), (2, .int (x2_4 ||| (1 <<< (x3_4 &&& 31)))), (4, .int (f_X5_hasBit (M 4 p1.toNatClampNeg) x3_4)), (0, .ref (a 0)), (1, .int p1)]) hx hb dX3_ownersHearing_48 hl (k := 4) rfl rfl (by decide) rfl (fun ls hl => ?_)
            refine lv_goto (tgt := 4) hx hb dX3_ownersHearing_51 (by decide) ?_
            exact ih_4 (j_4 + 1) (x2_4 ||| (1 <<< (x3_4 &&& 31))) (x3_4 + 1) (by rw [ex3_4, nI_1]) (by omega) (by omega) hR _ _ _ hP hS (lv_sub hl [3, 4, 1, 0] rfl)
  exact hL_4 13 0 0 0 (by decide +kernel) (by decide) (by decide) hR _ _ _ hP hS (lv_sub hl [2, 3, 1, 0] rfl)
abbrev rm_X3_isSilentWithout : Room := { frames := 3, cells := 0, slots := 0, locals := 70 }
def f_X3_isSilentWithout (T : SR) (M : SR) (p1 : Int32) (p2 : Int32) (p3 : Int32) : Int32 × SR := sLet (sU T 0 p2.toNatClampNeg (f_X5_withBit (T 0 p2.toNatClampNeg) p1 0)) (fun Tn4 : SR => (if (f_X3_ownersHearing Tn4 M p3) = 0 then sLet (sU Tn4 0 p2.toNatClampNeg (f_X5_withBit (Tn4 0 p2.toNatClampNeg) p1 1)) (fun Tn15 : SR => (1, Tn15)) else sLet (sU Tn4 0 p2.toNatClampNeg (f_X5_withBit (Tn4 0 p2.toNatClampNeg) p1 1)) (fun Tn11 : SR => (0, Tn11))))
set_option maxHeartbeats 4000000 in
set_option maxRecDepth 100000 in
theorem c_X3_isSilentWithout (l : Launch) (dC : Nat → ClassId) (dI : Nat → Nat → Nat) (cI cC cS : ClassId) (a : Nat → Nat) (b : Nat → Nat) (T : SR) (M : SR) (sz : Nat) (p1 : Int32) (p2 : Int32) (p3 : Int32) (h1 : vp_in p1 4) (h2 : vp_in p2 12) (h3 : vp_in p3 4) (hW : WF M) : Met l yX3_isSilentWithout wsX3_isSilentWithout rm_X3_isSilentWithout (PcG (dC, dI) (tyL cI cC cS) (cRt a b cI T ++ cSt b cI M) sz [.ref (a 0), .int p1, .int p2, .int p3]) (va_Qi (fun (r : Int32) (u : SR) => (r, u) = f_X3_isSilentWithout T M p1 p2 p3 ∧ (r = 0 ∨ r = 1)) (fun u U => va_P (dC, dI) vwCl (cRt a b cI u ++ cSt b cI M) U.heap ∧ va_D (va_A (cRt a b cI T ++ cSt b cI M) sz) (cRt a b cI u ++ cSt b cI M)) (va_A (cRt a b cI T ++ cSt b cI M) sz)) 0 0 (va_A (cRt a b cI T ++ cSt b cI M) sz) := by
  refine Met.ofW (cc := cX3_isSilentWithout) (maxL := 5) (ret := (some .boolean)) (by decide) rfl ?_
  intro p e s m args below meth c s₁ B hml hv
  obtain ⟨rfl, hsz, hP, hK, hD0, hN⟩ := hv
  have hx := B.exec
  have hb := B.bytes
  have hr := B.returns
  have hts := atoms_spec (ws := wsX3_isSilentWithout) B.pre
  have hown : s.vm.findClass RX3 = some m.cls := findClass_of_methodNamed B.named
  have hlocks := B.notSynchronized
  subst hsz
  have hD := hD0.self (sz := s.heap.size)
  have hA : ∀ q : Nat, s.heap.size ≤ q → (va_A (cRt a b cI T ++ cSt b cI M) s.heap.size) q := fun q h => Or.inr h
  have hS : va_S (va_A (cRt a b cI T ++ cSt b cI M) s.heap.size) s.heap s.heap [] := va_S.rf
  have hin3 : ∀ w ∈ wsX30, w ∈ wsX3_isSilentWithout := fun _ h => List.mem_cons_of_mem _ (List.mem_append_left _ (List.mem_append_right _ h))
  have hl := lv_entry [.ref (a 0), .int p1, .int p2, .int p3] (n := 5) (Nat.le_of_ble_eq_true rfl)
  rw [lg_entry_eq]
  generalize (lg_sl [.ref (a 0), .int p1, .int p2, .int p3] ++ List.replicate (5 - (lg_sl [.ref (a 0), .int p1, .int p2, .int p3]).length) Slot.unset).toArray = ls at hl ⊢
  have hl : lv_has ls 5 [(0, .ref (a 0)), (1, .int p1), (2, .int p2), (3, .int p3)] := hl
  obtain ⟨R0, eR⟩ : ∃ z, z = f_X3_isSilentWithout T M p1 p2 p3 := ⟨_, rfl⟩
  have hR := eR
  rw [f_X3_isSilentWithout] at hR
  refine lv_aload_n hx hb dX3_isSilentWithout_0 rfl (lv_at hl 0 rfl) ?_
  refine va_get (D := (dC, dI)) (ci := 3) (v := .ref (a 1)) (C := RX3) (T := TX3) (N := 4) hx hb hts hin3 hown hK hP 0 rfl rfl 1 (by decide) (hts (.fieldLink RX3 9 "FeedDesk$Routes" "reached" "[I") (List.mem_of_getElem? (i := 1) rfl)) (fun _ h9 => h9) rfl dX3_isSilentWithout_1 ?_
  refine lv_iload_n hx hb dX3_isSilentWithout_4 rfl (lv_at hl 2 rfl) ?_
  refine lv_aload_n hx hb dX3_isSilentWithout_5 rfl (lv_at hl 0 rfl) ?_
  refine va_get (D := (dC, dI)) (ci := 3) (v := .ref (a 1)) (C := RX3) (T := TX3) (N := 4) hx hb hts hin3 hown hK hP 0 rfl rfl 1 (by decide) (hts (.fieldLink RX3 9 "FeedDesk$Routes" "reached" "[I") (List.mem_of_getElem? (i := 1) rfl)) (fun _ h9 => h9) rfl dX3_isSilentWithout_6 ?_
  refine lv_iload_n hx hb dX3_isSilentWithout_9 rfl (lv_at hl 2 rfl) ?_
  refine va_iald (f := T 0) hx hb hK hP 1 0 rfl rfl h2 dX3_isSilentWithout_10 ?_
  refine lv_iload_n hx hb dX3_isSilentWithout_11 rfl (lv_at hl 1 rfl) ?_
  refine lv_iconst (v := 0) hx hb dX3_isSilentWithout_12 (by decide) ?_
  have hFc : ∀ q : Nat, va_A [] s.heap.size q → (va_A (cRt a b cI T ++ cSt b cI M) s.heap.size) q := roF hS hA
  refine va_calli (va_runSN (As := [.int (T 0 p2.toNatClampNeg), .int p1, .int 0]) (rest := [.int p2, .ref (a 1)]) ⟨hx, hb, hml, hown, hts⟩ (c_X5_withBit l dC dI cI cC cS s.heap.size (T 0 p2.toNatClampNeg) p1 0) ⟨va_cnB 3 hts gX3_isSilentWithout_X5_withBit_n49 rfl rfl rfl (hN.at 10 rfl) (hts (.initialized RX5) (List.mem_of_getElem? (i := 3) rfl)) (by decide +kernel) ⟨Nat.le_of_ble_eq_true rfl, Nat.le_of_ble_eq_true rfl⟩, (hts (.static yX5_withBit) (List.mem_of_getElem? (i := 2) rfl)), trivial⟩ (pS hK (va_P_nil) (va_D_nil) hN) rfl rfl hl.1 rfl (lv_room (Nat.le_of_ble_eq_true rfl)) dX3_isSilentWithout_13 ⟨Nat.le_of_ble_eq_true rfl, Nat.le_of_ble_eq_true rfl⟩) hS (fun q _ h => hFc q h) hFc (fun r_1 u_1 t_1 H2 locs ht hvm hw hB hz1 hk1 hS => ?_)
  subst hw
  have hP := ro_keep hP hk1
  refine va_iast (f := T 0) hx hb hK hP hD hS 1 0 rfl rfl h2 dX3_isSilentWithout_16 (fun H3 locs hP hD hS => ?_)
  have hP : va_P (dC, dI) vwCl (cRt a b cI (sU T 0 p2.toNatClampNeg (f_X5_withBit (T 0 p2.toNatClampNeg) p1 0)) ++ cSt b cI M) H3 := hP
  have hD : va_D (va_A (cRt a b cI T ++ cSt b cI M) s.heap.size) (cRt a b cI (sU T 0 p2.toNatClampNeg (f_X5_withBit (T 0 p2.toNatClampNeg) p1 0)) ++ cSt b cI M) := hD
  obtain ⟨Tn4, eTn4⟩ : ∃ z : SR, z = sU T 0 p2.toNatClampNeg (f_X5_withBit (T 0 p2.toNatClampNeg) p1 0) := ⟨_, rfl⟩
  rw [sLet_eq, ← eTn4] at hR
  rw [← eTn4] at hP hD
  refine lv_aload_n hx hb dX3_isSilentWithout_17 rfl (lv_at hl 0 rfl) ?_
  refine lv_iload_n hx hb dX3_isSilentWithout_18 rfl (lv_at hl 3 rfl) ?_
  have hPc : va_P (dC, dI) vwCl (cRt a b cI Tn4 ++ cSt b cI M) H3 := hP.sub [0, 1, 2, 3, 4, 5, 6, 7, 8, 9, 10, 11, 12, 13, 14, 15] rfl
  have hDc : va_D (va_A (cRt a b cI T ++ cSt b cI M) s.heap.size) (cRt a b cI Tn4 ++ cSt b cI M) := hD.sub [0, 1, 2, 3, 4, 5, 6, 7, 8, 9, 10, 11, 12, 13, 14, 15] (by decide) rfl
  have hFc : ∀ q : Nat, va_A [] H3.size q → (va_A (cRt a b cI T ++ cSt b cI M) s.heap.size) q := roF hS hA
  refine va_calli (va_runV (As := [.int p3]) (rest := []) ⟨hx, hb, hml, hown, hts⟩ (c_X3_ownersHearing l dC dI cI cC cS a b Tn4 M H3.size p3 h3 hW) (cwV 1 hts gX3_isSilentWithout_X3_ownersHearing rfl rfl rfl (by decide +kernel) ⟨Nat.le_of_ble_eq_true rfl, Nat.le_of_ble_eq_true rfl⟩) (pV (q0 := 0) hK hPc hDc hN rfl rfl) rfl rfl hl.1 rfl (lv_room (Nat.le_of_ble_eq_true rfl)) dX3_isSilentWithout_19 ⟨Nat.le_of_ble_eq_true rfl, Nat.le_of_ble_eq_true rfl⟩) hS (fun q _ h => hFc q h) hFc (fun r_5 u_5 t_5 H6 locs ht hvm hw hB hz1 hk1 hS => ?_)
  subst hw
  have hP := ro_keep hP hk1
  refine lv_if_ne (tgt := 29) hx hb dX3_isSilentWithout_22 (by decide) (fun c7 => ?_) (fun c7 => ?_)
  · rw [if_neg c7] at hR
    refine lv_iconst (v := 0) hx hb dX3_isSilentWithout_29 (by decide) ?_
    refine lv_istore (lv' := [(4, .int 0), (0, .ref (a 0)), (1, .int p1), (2, .int p2), (3, .int p3)]) hx hb dX3_isSilentWithout_30 hl (by decide) rfl (fun ls hl => ?_)
    refine lv_aload_n hx hb dX3_isSilentWithout_32 rfl (lv_at hl 1 rfl) ?_
    refine va_get (D := (dC, dI)) (ci := 3) (v := .ref (a 1)) (C := RX3) (T := TX3) (N := 4) hx hb hts hin3 hown hK hP 0 rfl rfl 1 (by decide) (hts (.fieldLink RX3 9 "FeedDesk$Routes" "reached" "[I") (List.mem_of_getElem? (i := 1) rfl)) (fun _ h9 => h9) rfl dX3_isSilentWithout_33 ?_
    refine lv_iload_n hx hb dX3_isSilentWithout_36 rfl (lv_at hl 3 rfl) ?_
    refine lv_aload_n hx hb dX3_isSilentWithout_37 rfl (lv_at hl 1 rfl) ?_
    refine va_get (D := (dC, dI)) (ci := 3) (v := .ref (a 1)) (C := RX3) (T := TX3) (N := 4) hx hb hts hin3 hown hK hP 0 rfl rfl 1 (by decide) (hts (.fieldLink RX3 9 "FeedDesk$Routes" "reached" "[I") (List.mem_of_getElem? (i := 1) rfl)) (fun _ h9 => h9) rfl dX3_isSilentWithout_38 ?_
    refine lv_iload_n hx hb dX3_isSilentWithout_41 rfl (lv_at hl 3 rfl) ?_
    refine va_iald (f := Tn4 0) hx hb hK hP 1 0 rfl rfl h2 dX3_isSilentWithout_42 ?_
    refine lv_iload_n hx hb dX3_isSilentWithout_43 rfl (lv_at hl 2 rfl) ?_
    refine lv_iconst (v := 1) hx hb dX3_isSilentWithout_44 (by decide) ?_
    have hFc : ∀ q : Nat, va_A [] H6.size q → (va_A (cRt a b cI T ++ cSt b cI M) s.heap.size) q := roF hS hA
    refine va_calli (va_runSN (As := [.int (Tn4 0 p2.toNatClampNeg), .int p1, .int 1]) (rest := [.int p2, .ref (a 1)]) ⟨hx, hb, hml, hown, hts⟩ (c_X5_withBit l dC dI cI cC cS H6.size (Tn4 0 p2.toNatClampNeg) p1 1) ⟨va_cnB 3 hts gX3_isSilentWithout_X5_withBit_n49 rfl rfl rfl (hN.at 10 rfl) (hts (.initialized RX5) (List.mem_of_getElem? (i := 3) rfl)) (by decide +kernel) ⟨Nat.le_of_ble_eq_true rfl, Nat.le_of_ble_eq_true rfl⟩, (hts (.static yX5_withBit) (List.mem_of_getElem? (i := 2) rfl)), trivial⟩ (pS hK (va_P_nil) (va_D_nil) hN) rfl rfl hl.1 rfl (lv_room (Nat.le_of_ble_eq_true rfl)) dX3_isSilentWithout_45 ⟨Nat.le_of_ble_eq_true rfl, Nat.le_of_ble_eq_true rfl⟩) hS (fun q _ h => hFc q h) hFc (fun r_8 u_8 t_8 H9 locs ht hvm hw hB hz1 hk1 hS => ?_)
    subst hw
    have hP := ro_keep hP hk1
    refine va_iast (f := Tn4 0) hx hb hK hP hD hS 1 0 rfl rfl h2 dX3_isSilentWithout_48 (fun H10 locs hP hD hS => ?_)
    have hP : va_P (dC, dI) vwCl (cRt a b cI (sU Tn4 0 p2.toNatClampNeg (f_X5_withBit (Tn4 0 p2.toNatClampNeg) p1 1)) ++ cSt b cI M) H10 := hP
    have hD : va_D (va_A (cRt a b cI T ++ cSt b cI M) s.heap.size) (cRt a b cI (sU Tn4 0 p2.toNatClampNeg (f_X5_withBit (Tn4 0 p2.toNatClampNeg) p1 1)) ++ cSt b cI M) := hD
    obtain ⟨Tn11, eTn11⟩ : ∃ z : SR, z = sU Tn4 0 p2.toNatClampNeg (f_X5_withBit (Tn4 0 p2.toNatClampNeg) p1 1) := ⟨_, rfl⟩
    rw [sLet_eq, ← eTn11] at hR
    rw [← eTn11] at hP hD
    refine lv_iload hx hb dX3_isSilentWithout_49 (lv_at hl 0 rfl) ?_
    exact W.zret (v := 0) hx hb hr rfl (fun t ht hWw => ⟨⟨0, Tn11, rfl, ⟨hR.symm.trans eR, (Or.inl rfl)⟩, by rw [ht]; exact hP, hD⟩, hS.F ht⟩) hS.2.2 dX3_isSilentWithout_51
  · rw [if_pos c7] at hR
    refine lv_iconst (v := 1) hx hb dX3_isSilentWithout_25 (by decide) ?_
    refine lv_goto (tgt := 30) hx hb dX3_isSilentWithout_26 (by decide) ?_
    refine lv_istore (lv' := [(4, .int 1), (0, .ref (a 0)), (1, .int p1), (2, .int p2), (3, .int p3)]) hx hb dX3_isSilentWithout_30 hl (by decide) rfl (fun ls hl => ?_)
    refine lv_aload_n hx hb dX3_isSilentWithout_32 rfl (lv_at hl 1 rfl) ?_
    refine va_get (D := (dC, dI)) (ci := 3) (v := .ref (a 1)) (C := RX3) (T := TX3) (N := 4) hx hb hts hin3 hown hK hP 0 rfl rfl 1 (by decide) (hts (.fieldLink RX3 9 "FeedDesk$Routes" "reached" "[I") (List.mem_of_getElem? (i := 1) rfl)) (fun _ h9 => h9) rfl dX3_isSilentWithout_33 ?_
    refine lv_iload_n hx hb dX3_isSilentWithout_36 rfl (lv_at hl 3 rfl) ?_
    refine lv_aload_n hx hb dX3_isSilentWithout_37 rfl (lv_at hl 1 rfl) ?_
    refine va_get (D := (dC, dI)) (ci := 3) (v := .ref (a 1)) (C := RX3) (T := TX3) (N := 4) hx hb hts hin3 hown hK hP 0 rfl rfl 1 (by decide) (hts (.fieldLink RX3 9 "FeedDesk$Routes" "reached" "[I") (List.mem_of_getElem? (i := 1) rfl)) (fun _ h9 => h9) rfl dX3_isSilentWithout_38 ?_
    refine lv_iload_n hx hb dX3_isSilentWithout_41 rfl (lv_at hl 3 rfl) ?_
    refine va_iald (f := Tn4 0) hx hb hK hP 1 0 rfl rfl h2 dX3_isSilentWithout_42 ?_
    refine lv_iload_n hx hb dX3_isSilentWithout_43 rfl (lv_at hl 2 rfl) ?_
    refine lv_iconst (v := 1) hx hb dX3_isSilentWithout_44 (by decide) ?_
    have hFc : ∀ q : Nat, va_A [] H6.size q → (va_A (cRt a b cI T ++ cSt b cI M) s.heap.size) q := roF hS hA
    refine va_calli (va_runSN (As := [.int (Tn4 0 p2.toNatClampNeg), .int p1, .int 1]) (rest := [.int p2, .ref (a 1)]) ⟨hx, hb, hml, hown, hts⟩ (c_X5_withBit l dC dI cI cC cS H6.size (Tn4 0 p2.toNatClampNeg) p1 1) ⟨va_cnB 3 hts gX3_isSilentWithout_X5_withBit_n49 rfl rfl rfl (hN.at 10 rfl) (hts (.initialized RX5) (List.mem_of_getElem? (i := 3) rfl)) (by decide +kernel) ⟨Nat.le_of_ble_eq_true rfl, Nat.le_of_ble_eq_true rfl⟩, (hts (.static yX5_withBit) (List.mem_of_getElem? (i := 2) rfl)), trivial⟩ (pS hK (va_P_nil) (va_D_nil) hN) rfl rfl hl.1 rfl (lv_room (Nat.le_of_ble_eq_true rfl)) dX3_isSilentWithout_45 ⟨Nat.le_of_ble_eq_true rfl, Nat.le_of_ble_eq_true rfl⟩) hS (fun q _ h => hFc q h) hFc (fun r_12 u_12 t_12 H13 locs ht hvm hw hB hz1 hk1 hS => ?_)
    subst hw
    have hP := ro_keep hP hk1
    refine va_iast (f := Tn4 0) hx hb hK hP hD hS 1 0 rfl rfl h2 dX3_isSilentWithout_48 (fun H14 locs hP hD hS => ?_)
    have hP : va_P (dC, dI) vwCl (cRt a b cI (sU Tn4 0 p2.toNatClampNeg (f_X5_withBit (Tn4 0 p2.toNatClampNeg) p1 1)) ++ cSt b cI M) H14 := hP
    have hD : va_D (va_A (cRt a b cI T ++ cSt b cI M) s.heap.size) (cRt a b cI (sU Tn4 0 p2.toNatClampNeg (f_X5_withBit (Tn4 0 p2.toNatClampNeg) p1 1)) ++ cSt b cI M) := hD
    obtain ⟨Tn15, eTn15⟩ : ∃ z : SR, z = sU Tn4 0 p2.toNatClampNeg (f_X5_withBit (Tn4 0 p2.toNatClampNeg) p1 1) := ⟨_, rfl⟩
    rw [sLet_eq, ← eTn15] at hR
    rw [← eTn15] at hP hD
    refine lv_iload hx hb dX3_isSilentWithout_49 (lv_at hl 0 rfl) ?_
    exact W.zret (v := 1) hx hb hr rfl (fun t ht hWw => ⟨⟨1, Tn15, rfl, ⟨hR.symm.trans eR, (Or.inr rfl)⟩, by rw [ht]; exact hP, hD⟩, hS.F ht⟩) hS.2.2 dX3_isSilentWithout_51
abbrev rm_X3_sendToCut : Room := { frames := 4, cells := 0, slots := 0, locals := 94 }
def f_X3_sendToCut_p9 (M : SR) (p1 : Int32) (kb2 : Int32 → SR → (Int32 × SR)) : Nat → Int32 → Int32 → SR → (Int32 × SR)
  | 0, _, _, T_9 => (0, T_9)
  | n_9 + 1, x2_9, x3_9, T_9 => (if 12 ≤ x3_9 then kb2 (x2_9 + 1) T_9 else (if (f_X5_hasBit (T_9 0 x3_9.toNatClampNeg) x2_9) = 0 then (f_X3_sendToCut_p9 M p1 kb2 n_9) x2_9 (x3_9 + 1) T_9 else sLet ((f_X3_isSilentWithout T_9 M x2_9 x3_9 p1).2) (fun Tn10 : SR => (if ((f_X3_isSilentWithout T_9 M x2_9 x3_9 p1).1) = 0 then (f_X3_sendToCut_p9 M p1 kb2 n_9) x2_9 (x3_9 + 1) Tn10 else ((100 * x2_9) + x3_9, Tn10)))))
def f_X3_sendToCut_p2 (M : SR) (p1 : Int32)  : Nat → Int32 → SR → (Int32 × SR)
  | 0, _, T_2 => (0, T_2)
  | n_2 + 1, x2_2, T_2 => (if 4 ≤ x2_2 then ((-99), T_2) else f_X3_sendToCut_p9 M p1 (f_X3_sendToCut_p2 M p1 n_2) 13 x2_2 0 T_2)
def f_X3_sendToCut (T : SR) (M : SR) (p1 : Int32) : Int32 × SR := f_X3_sendToCut_p2 M p1 5 0 T
set_option maxHeartbeats 4000000 in
set_option maxRecDepth 100000 in
theorem c_X3_sendToCut (l : Launch) (dC : Nat → ClassId) (dI : Nat → Nat → Nat) (cI cC cS : ClassId) (a : Nat → Nat) (b : Nat → Nat) (T : SR) (M : SR) (sz : Nat) (p1 : Int32) (h1 : vp_in p1 4) (hW : WF M) : Met l yX3_sendToCut wsX3_sendToCut rm_X3_sendToCut (PcG (dC, dI) (tyL cI cC cS) (cRt a b cI T ++ cSt b cI M) sz [.ref (a 0), .int p1]) (va_Qi (fun (r : Int32) (u : SR) => (r, u) = f_X3_sendToCut T M p1) (fun u U => va_P (dC, dI) vwCl (cRt a b cI u ++ cSt b cI M) U.heap ∧ va_D (va_A (cRt a b cI T ++ cSt b cI M) sz) (cRt a b cI u ++ cSt b cI M)) (va_A (cRt a b cI T ++ cSt b cI M) sz)) 0 0 (va_A (cRt a b cI T ++ cSt b cI M) sz) := by
  refine Met.ofW (cc := cX3_sendToCut) (maxL := 4) (ret := (some .int)) (by decide) rfl ?_
  intro p e s m args below meth c s₁ B hml hv
  obtain ⟨rfl, hsz, hP, hK, hD0, hN⟩ := hv
  have hx := B.exec
  have hb := B.bytes
  have hr := B.returns
  have hts := atoms_spec (ws := wsX3_sendToCut) B.pre
  have hown : s.vm.findClass RX3 = some m.cls := findClass_of_methodNamed B.named
  have hlocks := B.notSynchronized
  subst hsz
  have hD := hD0.self (sz := s.heap.size)
  have hA : ∀ q : Nat, s.heap.size ≤ q → (va_A (cRt a b cI T ++ cSt b cI M) s.heap.size) q := fun q h => Or.inr h
  have hS : va_S (va_A (cRt a b cI T ++ cSt b cI M) s.heap.size) s.heap s.heap [] := va_S.rf
  have hin3 : ∀ w ∈ wsX30, w ∈ wsX3_sendToCut := fun _ h => List.mem_cons_of_mem _ (List.mem_append_left _ (List.mem_append_right _ h))
  have hl := lv_entry [.ref (a 0), .int p1] (n := 4) (Nat.le_of_ble_eq_true rfl)
  rw [lg_entry_eq]
  generalize (lg_sl [.ref (a 0), .int p1] ++ List.replicate (4 - (lg_sl [.ref (a 0), .int p1]).length) Slot.unset).toArray = ls at hl ⊢
  have hl : lv_has ls 4 [(0, .ref (a 0)), (1, .int p1)] := hl
  obtain ⟨R0, eR⟩ : ∃ z, z = f_X3_sendToCut T M p1 := ⟨_, rfl⟩
  have hR := eR
  rw [f_X3_sendToCut] at hR
  refine lv_iconst (v := 0) hx hb dX3_sendToCut_0 (by decide) ?_
  refine lv_istore_n (lv' := [(2, .int 0), (0, .ref (a 0)), (1, .int p1)]) hx hb dX3_sendToCut_1 rfl hl (by decide) rfl (fun ls hl => ?_)
  have hL_2 : ∀ n_2 : Nat, ∀ (j_2 : Nat), ∀ (x2_2 : Int32) (T_2 : SR), x2_2 = nI j_2 → j_2 ≤ 4 → 4 < j_2 + n_2 → R0 = f_X3_sendToCut_p2 M p1 n_2 x2_2 T_2 → ∀ (H : Heap) (locs : List Loc) (ls : Array Slot), va_P (dC, dI) vwCl (cRt a b cI T_2 ++ cSt b cI M) H → va_D (va_A (cRt a b cI T ++ cSt b cI M) s.heap.size) (cRt a b cI T_2 ++ cSt b cI M) → va_S (va_A (cRt a b cI T ++ cSt b cI M) s.heap.size) s.heap H locs → lv_has ls 4 [(0, .ref (a 0)), (1, .int p1), (2, .int x2_2)] → W p l e (headSpec wsX3_sendToCut rm_X3_sendToCut).room s m ([.ref (a 0), .int p1] : List Value).toArray below meth c H locs 0 0 (MQ below (va_Qi (fun (r : Int32) (u : SR) => (r, u) = f_X3_sendToCut T M p1) (fun u U => va_P (dC, dI) vwCl (cRt a b cI u ++ cSt b cI M) U.heap ∧ va_D (va_A (cRt a b cI T ++ cSt b cI M) s.heap.size) (cRt a b cI u ++ cSt b cI M)) (va_A (cRt a b cI T ++ cSt b cI M) s.heap.size)) ([.ref (a 0), .int p1] : List Value).toArray s 0 0 (va_A (cRt a b cI T ++ cSt b cI M) s.heap.size)) (F0 m 2 ls []) := by
    intro n_2
    induction n_2 with
    | zero =>
      intro j_2 x2_2 T_2 ex2_2 hj0_2 hn_2
      exact absurd hn_2 (by omega)
    | succ n_2 ih_2 =>
      intro j_2 x2_2 T_2 ex2_2 hj0_2 hn_2 hR H locs ls hP hD hS hl
      rw [f_X3_sendToCut_p2] at hR
      refine lv_iload_n hx hb dX3_sendToCut_2 rfl (lv_at hl 2 rfl) ?_
      refine lv_iconst (v := 4) hx hb dX3_sendToCut_3 (by decide) ?_
      refine lv_icmp_ge (tgt := 57) hx hb dX3_sendToCut_4 (by decide) (fun c1 => ?_) (fun c1 => ?_)
      · rw [if_pos c1] at hR
        refine lv_bipush (v := (-99)) hx hb dX3_sendToCut_57 (by decide) ?_
        exact W.iret (v := (-99)) hx hb hr (fun t ht hWw => ⟨⟨(-99), T_2, rfl, hR.symm.trans eR, by rw [ht]; exact hP, hD⟩, hS.F ht⟩) hS.2.2 dX3_sendToCut_59
      · rw [if_neg c1] at hR
        have hj_2 : j_2 < 4 := lp_ge ex2_2 (by decide +kernel) (by omega) (by omega) c1
        refine lv_iconst (v := 0) hx hb dX3_sendToCut_7 (by decide) ?_
        refine lv_istore_n (lv' := [(3, .int 0), (0, .ref (a 0)), (1, .int p1), (2, .int x2_2)]) hx hb dX3_sendToCut_8 rfl hl (by decide) rfl (fun ls hl => ?_)
        have hL_9 : ∀ n_9 : Nat, ∀ (j_9 : Nat), ∀ (x2_9 : Int32) (x3_9 : Int32) (T_9 : SR), x3_9 = nI j_9 → j_9 ≤ 12 → 12 < j_9 + n_9 → x2_9 = nI j_2 → R0 = f_X3_sendToCut_p9 M p1 (f_X3_sendToCut_p2 M p1 n_2) n_9 x2_9 x3_9 T_9 → ∀ (H : Heap) (locs : List Loc) (ls : Array Slot), va_P (dC, dI) vwCl (cRt a b cI T_9 ++ cSt b cI M) H → va_D (va_A (cRt a b cI T ++ cSt b cI M) s.heap.size) (cRt a b cI T_9 ++ cSt b cI M) → va_S (va_A (cRt a b cI T ++ cSt b cI M) s.heap.size) s.heap H locs → lv_has ls 4 [(0, .ref (a 0)), (1, .int p1), (2, .int x2_9), (3, .int x3_9)] → W p l e (headSpec wsX3_sendToCut rm_X3_sendToCut).room s m ([.ref (a 0), .int p1] : List Value).toArray below meth c H locs 0 0 (MQ below (va_Qi (fun (r : Int32) (u : SR) => (r, u) = f_X3_sendToCut T M p1) (fun u U => va_P (dC, dI) vwCl (cRt a b cI u ++ cSt b cI M) U.heap ∧ va_D (va_A (cRt a b cI T ++ cSt b cI M) s.heap.size) (cRt a b cI u ++ cSt b cI M)) (va_A (cRt a b cI T ++ cSt b cI M) s.heap.size)) ([.ref (a 0), .int p1] : List Value).toArray s 0 0 (va_A (cRt a b cI T ++ cSt b cI M) s.heap.size)) (F0 m 9 ls []) := by
          intro n_9
          induction n_9 with
          | zero =>
            intro j_9 x2_9 x3_9 T_9 ex3_9 hj0_9 hn_9 ex2_9
            exact absurd hn_9 (by omega)
          | succ n_9 ih_9 =>
            intro j_9 x2_9 x3_9 T_9 ex3_9 hj0_9 hn_9 ex2_9 hR H locs ls hP hD hS hl
            rw [f_X3_sendToCut_p9] at hR
            refine lv_iload_n hx hb dX3_sendToCut_9 rfl (lv_at hl 3 rfl) ?_
            refine lv_bipush (v := 12) hx hb dX3_sendToCut_10 (by decide) ?_
            refine lv_icmp_ge (tgt := 51) hx hb dX3_sendToCut_12 (by decide) (fun c2 => ?_) (fun c2 => ?_)
            · rw [if_pos c2] at hR
              refine lv_iinc (v := x2_9 + 1) (lv' := [(2, .int (x2_9 + 1)), (0, .ref (a 0)), (1, .int p1), (3, .int x3_9)]) hx hb dX3_sendToCut_51 hl (k := 2) rfl rfl (by decide) rfl (fun ls hl => ?_)
              refine lv_goto (tgt := 2) hx hb dX3_sendToCut_54 (by decide) ?_
              exact ih_2 (j_2 + 1) (x2_9 + 1) T_9 (by rw [ex2_9, nI_1]) (by omega) (by omega) hR _ _ _ hP hD hS (lv_sub hl [1, 2, 0] rfl)
            · rw [if_neg c2] at hR
              have hj_9 : j_9 < 12 := lp_ge ex3_9 (by decide +kernel) (by omega) (by omega) c2
              refine lv_aload_n hx hb dX3_sendToCut_15 rfl (lv_at hl 0 rfl) ?_
              refine va_get (D := (dC, dI)) (ci := 3) (v := .ref (a 1)) (C := RX3) (T := TX3) (N := 4) hx hb hts hin3 hown hK hP 0 rfl rfl 1 (by decide) (hts (.fieldLink RX3 9 "FeedDesk$Routes" "reached" "[I") (List.mem_of_getElem? (i := 1) rfl)) (fun _ h9 => h9) rfl dX3_sendToCut_16 ?_
              refine lv_iload_n hx hb dX3_sendToCut_19 rfl (lv_at hl 3 rfl) ?_
              refine va_iald (f := T_9 0) hx hb hK hP 1 0 rfl rfl (by rw [ex3_9]; exact vp_of_B (ix_1 j_9 hj_9)) dX3_sendToCut_20 ?_
              refine lv_iload_n hx hb dX3_sendToCut_21 rfl (lv_at hl 2 rfl) ?_
              have hFc : ∀ q : Nat, va_A [] H.size q → (va_A (cRt a b cI T ++ cSt b cI M) s.heap.size) q := roF hS hA
              refine va_calli (va_runSN (As := [.int (T_9 0 x3_9.toNatClampNeg), .int x2_9]) (rest := []) ⟨hx, hb, hml, hown, hts⟩ (c_X5_hasBit l dC dI cI cC cS H.size (T_9 0 x3_9.toNatClampNeg) x2_9) ⟨va_cnB 2 hts gX3_sendToCut_X5_hasBit_n34 rfl rfl rfl (hN.at 9 rfl) (hts (.initialized RX5) (List.mem_of_getElem? (i := 3) rfl)) (by decide +kernel) ⟨Nat.le_of_ble_eq_true rfl, Nat.le_of_ble_eq_true rfl⟩, (hts (.static yX5_hasBit) (List.mem_of_getElem? (i := 2) rfl)), trivial⟩ (pS hK (va_P_nil) (va_D_nil) hN) rfl rfl hl.1 rfl (lv_room (Nat.le_of_ble_eq_true rfl)) dX3_sendToCut_22 ⟨Nat.le_of_ble_eq_true rfl, Nat.le_of_ble_eq_true rfl⟩) hS (fun q _ h => hFc q h) hFc (fun r_3 u_3 t_3 H4 locs ht hvm hw hB hz1 hk1 hS => ?_)
              obtain ⟨hw, hre5⟩ := hw
              subst hw
              have hP := ro_keep hP hk1
              refine lv_if_eq (tgt := 45) hx hb dX3_sendToCut_25 (by decide) (fun c6 => ?_) (fun c6 => ?_)
              · rw [if_pos c6] at hR
                refine lv_iinc (v := x3_9 + 1) (lv' := [(3, .int (x3_9 + 1)), (0, .ref (a 0)), (1, .int p1), (2, .int x2_9)]) hx hb dX3_sendToCut_45 hl (k := 3) rfl rfl (by decide) rfl (fun ls hl => ?_)
                refine lv_goto (tgt := 9) hx hb dX3_sendToCut_48 (by decide) ?_
                exact ih_9 (j_9 + 1) x2_9 (x3_9 + 1) T_9 (by rw [ex3_9, nI_1]) (by omega) (by omega) ex2_9 hR _ _ _ hP hD hS (lv_sub hl [1, 2, 3, 0] rfl)
              · rw [if_neg c6] at hR
                refine lv_aload_n hx hb dX3_sendToCut_28 rfl (lv_at hl 0 rfl) ?_
                refine lv_iload_n hx hb dX3_sendToCut_29 rfl (lv_at hl 2 rfl) ?_
                refine lv_iload_n hx hb dX3_sendToCut_30 rfl (lv_at hl 3 rfl) ?_
                refine lv_iload_n hx hb dX3_sendToCut_31 rfl (lv_at hl 1 rfl) ?_
                have hPc : va_P (dC, dI) vwCl (cRt a b cI T_9 ++ cSt b cI M) H4 := hP.sub [0, 1, 2, 3, 4, 5, 6, 7, 8, 9, 10, 11, 12, 13, 14, 15] rfl
                have hDc : va_D (va_A (cRt a b cI T ++ cSt b cI M) s.heap.size) (cRt a b cI T_9 ++ cSt b cI M) := hD.sub [0, 1, 2, 3, 4, 5, 6, 7, 8, 9, 10, 11, 12, 13, 14, 15] (by decide) rfl
                have hFc : ∀ q : Nat, va_A (cRt a b cI T_9 ++ cSt b cI M) H4.size q → (va_A (cRt a b cI T ++ cSt b cI M) s.heap.size) q := va_free hD hS hA [0, 1, 2, 3, 4, 5, 6, 7, 8, 9, 10, 11, 12, 13, 14, 15] rfl
                refine va_calli (va_runV (As := [.int x2_9, .int x3_9, .int p1]) (rest := []) ⟨hx, hb, hml, hown, hts⟩ (c_X3_isSilentWithout l dC dI cI cC cS a b T_9 M H4.size x2_9 x3_9 p1 (by rw [ex2_9]; exact vp_of_B (ix_2 j_2 hj_2)) (by rw [ex3_9]; exact vp_of_B (ix_1 j_9 hj_9)) h1 hW) (cwV 3 hts gX3_sendToCut_X3_isSilentWithout rfl rfl rfl (by decide +kernel) ⟨Nat.le_of_ble_eq_true rfl, Nat.le_of_ble_eq_true rfl⟩) (pV (q0 := 0) hK hPc hDc hN rfl rfl) rfl rfl hl.1 rfl (lv_room (Nat.le_of_ble_eq_true rfl)) dX3_sendToCut_32 ⟨Nat.le_of_ble_eq_true rfl, Nat.le_of_ble_eq_true rfl⟩) hS (fun q _ h => hFc q h) hFc (fun r_7 u_7 t_7 H8 locs ht hvm hw hB hz1 hk1 hS => ?_)
                obtain ⟨hw, hens9⟩ := hw
                obtain ⟨hP1, hD1⟩ := hB
                rw [ht] at hP1
                have hw1 : r_7 = (f_X3_isSilentWithout T_9 M x2_9 x3_9 p1).1 := congrArg Prod.fst hw
                have hw2 : u_7 = (f_X3_isSilentWithout T_9 M x2_9 x3_9 p1).2 := congrArg Prod.snd hw
                clear hw
                subst hw1
                subst hw2
                obtain ⟨hP, hD⟩ := va_join (wc := cRt a b cI T_9 ++ cSt b cI M) (wr := []) (w1 := cRt a b cI ((f_X3_isSilentWithout T_9 M x2_9 x3_9 p1).2) ++ cSt b cI M) hP hD [0, 1, 2, 3, 4, 5, 6, 7, 8, 9, 10, 11, 12, 13, 14, 15] [] rfl rfl (by decide) (by decide) hk1 hFc hP1 hD1
                have hP : va_P (dC, dI) vwCl (cRt a b cI ((f_X3_isSilentWithout T_9 M x2_9 x3_9 p1).2) ++ cSt b cI M) H8 := hP.sub [0, 1, 2, 3, 4, 5, 6, 7, 8, 9, 10, 11, 12, 13, 14, 15] rfl
                have hD : va_D (va_A (cRt a b cI T ++ cSt b cI M) s.heap.size) (cRt a b cI ((f_X3_isSilentWithout T_9 M x2_9 x3_9 p1).2) ++ cSt b cI M) := hD.sub [0, 1, 2, 3, 4, 5, 6, 7, 8, 9, 10, 11, 12, 13, 14, 15] (by decide) rfl
                obtain ⟨Tn10, eTn10⟩ : ∃ z : SR, z = (f_X3_isSilentWithout T_9 M x2_9 x3_9 p1).2 := ⟨_, rfl⟩
                rw [sLet_eq, ← eTn10] at hR
                rw [← eTn10] at hP hD
                refine lv_if_eq (tgt := 45) hx hb dX3_sendToCut_35 (by decide) (fun c11 => ?_) (fun c11 => ?_)
                · rw [if_pos c11] at hR
                  refine lv_iinc (v := x3_9 + 1) (lv' := [(3, .int (x3_9 + 1)), (0, .ref (a 0)), (1, .int p1), (2, .int x2_9)]) hx hb dX3_sendToCut_45 hl (k := 3) rfl rfl (by decide) rfl (fun ls hl => ?_)
                  refine lv_goto (tgt := 9) hx hb dX3_sendToCut_48 (by decide) ?_
                  exact ih_9 (j_9 + 1) x2_9 (x3_9 + 1) Tn10 (by rw [ex3_9, nI_1]) (by omega) (by omega) ex2_9 hR _ _ _ hP hD hS (lv_sub hl [1, 2, 3, 0] rfl)
                · rw [if_neg c11] at hR
                  refine lv_bipush (v := 100) hx hb dX3_sendToCut_38 (by decide) ?_
                  refine lv_iload_n hx hb dX3_sendToCut_40 rfl (lv_at hl 2 rfl) ?_
                  refine lv_imul hx hb dX3_sendToCut_41 ?_
                  refine lv_iload_n hx hb dX3_sendToCut_42 rfl (lv_at hl 3 rfl) ?_
                  refine lv_iadd hx hb dX3_sendToCut_43 ?_
                  exact W.iret (v := (100 * x2_9) + x3_9) hx hb hr (fun t ht hWw => ⟨⟨(100 * x2_9) + x3_9, Tn10, rfl, hR.symm.trans eR, by rw [ht]; exact hP, hD⟩, hS.F ht⟩) hS.2.2 dX3_sendToCut_44
        exact hL_9 13 0 x2_2 0 T_2 (by decide +kernel) (by decide) (by decide) ex2_2 hR _ _ _ hP hD hS (lv_sub hl [1, 2, 3, 0] rfl)
  exact hL_2 5 0 0 T (by decide +kernel) (by decide) (by decide) hR _ _ _ hP hD hS (lv_sub hl [1, 2, 0] rfl)
abbrev rm_X3_nextAt : Room := { frames := 1, cells := 0, slots := 0, locals := 21 }
def f_X3_nextAt_p5 (T : SR) (M : SR) (p1 : Int32) (p2 : Int32)  : Nat → Int32 → Int32 → Int32
  | 0, _, _ => 0
  | n_5 + 1, x3_5, x4_5 => (if 4 ≤ x4_5 then x3_5 else (if (f_X5_hasBit (T 0 p1.toNatClampNeg) x4_5) = 0 then (f_X3_nextAt_p5 T M p1 p2 n_5) x3_5 (x4_5 + 1) else (if (M 5 x4_5.toNatClampNeg) < 0 then (f_X3_nextAt_p5 T M p1 p2 n_5) x3_5 (x4_5 + 1) else (if (T 1 (M 5 x4_5.toNatClampNeg).toNatClampNeg) = p2 then (if x3_5 < 0 then (f_X3_nextAt_p5 T M p1 p2 n_5) (M 5 x4_5.toNatClampNeg) (x4_5 + 1) else (if x3_5 ≤ (M 5 x4_5.toNatClampNeg) then (f_X3_nextAt_p5 T M p1 p2 n_5) x3_5 (x4_5 + 1) else (f_X3_nextAt_p5 T M p1 p2 n_5) (M 5 x4_5.toNatClampNeg) (x4_5 + 1))) else (f_X3_nextAt_p5 T M p1 p2 n_5) x3_5 (x4_5 + 1)))))
def f_X3_nextAt (T : SR) (M : SR) (p1 : Int32) (p2 : Int32) : Int32 := f_X3_nextAt_p5 T M p1 p2 5 (-1) 0
set_option maxHeartbeats 4000000 in
set_option maxRecDepth 100000 in
theorem c_X3_nextAt (l : Launch) (dC : Nat → ClassId) (dI : Nat → Nat → Nat) (cI cC cS : ClassId) (a : Nat → Nat) (b : Nat → Nat) (T : SR) (M : SR) (sz : Nat) (p1 : Int32) (p2 : Int32) (h1 : vp_in p1 12) (hW : WF M) : Met l yX3_nextAt wsX3_nextAt rm_X3_nextAt (PcG (dC, dI) (tyL cI cC cS) (cRt a b cI T ++ cSt b cI M) sz [.ref (a 0), .int p1, .int p2]) (va_Qi (fun (r : Int32) (_ : Unit) => r = f_X3_nextAt T M p1 p2 ∧ (r = -1 ∨ vp_in r 12)) (fun _ _ => True) (va_A [] sz)) 0 0 (va_A [] sz) := by
  refine Met.ofW (cc := cX3_nextAt) (maxL := 6) (ret := (some .int)) (by decide) rfl ?_
  intro p e s m args below meth c s₁ B hml hv
  obtain ⟨rfl, hsz, hP, hK, hD0, hN⟩ := hv
  have hx := B.exec
  have hb := B.bytes
  have hr := B.returns
  have hts := atoms_spec (ws := wsX3_nextAt) B.pre
  have hown : s.vm.findClass RX3 = some m.cls := findClass_of_methodNamed B.named
  have hlocks := B.notSynchronized
  subst hsz
  have hA : ∀ q : Nat, s.heap.size ≤ q → (va_A [] s.heap.size) q := fun q h => Or.inr h
  have hS : va_S (va_A [] s.heap.size) s.heap s.heap [] := va_S.rf
  have hin3 : ∀ w ∈ wsX30, w ∈ wsX3_nextAt := fun _ h => List.mem_cons_of_mem _ (List.mem_append_left _ (List.mem_append_right _ h))
  have hin4 : ∀ w ∈ wsX40, w ∈ wsX3_nextAt := fun _ h => List.mem_cons_of_mem _ (List.mem_append_right _ h)
  have hl := lv_entry [.ref (a 0), .int p1, .int p2] (n := 6) (Nat.le_of_ble_eq_true rfl)
  rw [lg_entry_eq]
  generalize (lg_sl [.ref (a 0), .int p1, .int p2] ++ List.replicate (6 - (lg_sl [.ref (a 0), .int p1, .int p2]).length) Slot.unset).toArray = ls at hl ⊢
  have hl : lv_has ls 6 [(0, .ref (a 0)), (1, .int p1), (2, .int p2)] := hl
  obtain ⟨R0, eR⟩ : ∃ z, z = f_X3_nextAt T M p1 p2 := ⟨_, rfl⟩
  have hR := eR
  rw [f_X3_nextAt] at hR
  refine lv_iconst (v := (-1)) hx hb dX3_nextAt_0 (by decide) ?_
  refine lv_istore_n (lv' := [(3, .int (-1)), (0, .ref (a 0)), (1, .int p1), (2, .int p2)]) hx hb dX3_nextAt_1 rfl hl (by decide) rfl (fun ls hl => ?_)
  refine lv_iconst (v := 0) hx hb dX3_nextAt_2 (by decide) ?_
  refine lv_istore (lv' := [(4, .int 0), (3, .int (-1)), (0, .ref (a 0)), (1, .int p1), (2, .int p2)]) hx hb dX3_nextAt_3 hl (by decide) rfl (fun ls hl => ?_)
  have hL_5 : ∀ n_5 : Nat, ∀ (j_5 : Nat), ∀ (x3_5 : Int32) (x4_5 : Int32) , x4_5 = nI j_5 → j_5 ≤ 4 → 4 < j_5 + n_5 → x3_5 = -1 ∨ vp_in x3_5 12 → R0 = f_X3_nextAt_p5 T M p1 p2 n_5 x3_5 x4_5 → ∀ (H : Heap) (locs : List Loc) (ls : Array Slot), va_P (dC, dI) vwCl (cRt a b cI T ++ cSt b cI M) H → va_S (va_A [] s.heap.size) s.heap H locs → lv_has ls 6 [(0, .ref (a 0)), (1, .int p1), (2, .int p2), (3, .int x3_5), (4, .int x4_5)] → W p l e (headSpec wsX3_nextAt rm_X3_nextAt).room s m ([.ref (a 0), .int p1, .int p2] : List Value).toArray below meth c H locs 0 0 (MQ below (va_Qi (fun (r : Int32) (_ : Unit) => r = f_X3_nextAt T M p1 p2 ∧ (r = -1 ∨ vp_in r 12)) (fun _ _ => True) (va_A [] s.heap.size)) ([.ref (a 0), .int p1, .int p2] : List Value).toArray s 0 0 (va_A [] s.heap.size)) (F0 m 5 ls []) := by
    intro n_5
    induction n_5 with
    | zero =>
      intro j_5 x3_5 x4_5 ex4_5 hj0_5 hn_5 hs_5
      exact absurd hn_5 (by omega)
    | succ n_5 ih_5 =>
      intro j_5 x3_5 x4_5 ex4_5 hj0_5 hn_5 hs_5 hR H locs ls hP hS hl
      rw [f_X3_nextAt_p5] at hR
      refine lv_iload hx hb dX3_nextAt_5 (lv_at hl 4 rfl) ?_
      refine lv_iconst (v := 4) hx hb dX3_nextAt_7 (by decide) ?_
      refine lv_icmp_ge (tgt := 72) hx hb dX3_nextAt_8 (by decide) (fun c1 => ?_) (fun c1 => ?_)
      · rw [if_pos c1] at hR
        refine lv_iload_n hx hb dX3_nextAt_72 rfl (lv_at hl 3 rfl) ?_
        exact W.iret (v := x3_5) hx hb hr (fun t ht hWw => ⟨⟨x3_5, (), rfl, ⟨hR.symm.trans eR, hs_5⟩, trivial⟩, hS.F ht⟩) hS.2.2 dX3_nextAt_73
      · rw [if_neg c1] at hR
        have hj_5 : j_5 < 4 := lp_ge ex4_5 (by decide +kernel) (by omega) (by omega) c1
        refine lv_aload_n hx hb dX3_nextAt_11 rfl (lv_at hl 0 rfl) ?_
        refine va_get (D := (dC, dI)) (ci := 3) (v := .ref (b 0)) (C := RX3) (T := TX3) (N := 4) hx hb hts hin3 hown hK hP 0 rfl rfl 0 (by decide) (hts (.fieldLink RX3 21 "FeedDesk$Routes" "desk" "LFeedDesk$State;") (List.mem_of_getElem? (i := 1) rfl)) (fun _ h9 => h9) rfl dX3_nextAt_12 ?_
        refine va_getN (D := (dC, dI)) (ci := 4) (v := .ref (b 6)) (C := RX4) (T := TX4) (N := 18) hx hb hts hin4 hown hK hP 4 rfl rfl 8 (by decide) (va_Nw.use rfl (hN.at 24 rfl)) (fun _ h9 => h9) rfl dX3_nextAt_15 ?_
        refine lv_iload hx hb dX3_nextAt_18 (lv_at hl 4 rfl) ?_
        refine va_iald (f := M 5) hx hb hK hP 10 0 rfl rfl (by rw [ex4_5]; exact vp_of_B (ix_2 j_5 hj_5)) dX3_nextAt_20 ?_
        refine lv_istore (lv' := [(5, .int (M 5 x4_5.toNatClampNeg)), (0, .ref (a 0)), (1, .int p1), (2, .int p2), (3, .int x3_5), (4, .int x4_5)]) hx hb dX3_nextAt_21 hl (by decide) rfl (fun ls hl => ?_)
        refine lv_aload_n hx hb dX3_nextAt_23 rfl (lv_at hl 1 rfl) ?_
        refine va_get (D := (dC, dI)) (ci := 3) (v := .ref (a 1)) (C := RX3) (T := TX3) (N := 4) hx hb hts hin3 hown hK hP 0 rfl rfl 1 (by decide) (hts (.fieldLink RX3 9 "FeedDesk$Routes" "reached" "[I") (List.mem_of_getElem? (i := 2) rfl)) (fun _ h9 => h9) rfl dX3_nextAt_24 ?_
        refine lv_iload_n hx hb dX3_nextAt_27 rfl (lv_at hl 2 rfl) ?_
        refine va_iald (f := T 0) hx hb hK hP 1 0 rfl rfl h1 dX3_nextAt_28 ?_
        refine lv_iload hx hb dX3_nextAt_29 (lv_at hl 5 rfl) ?_
        have hFc : ∀ q : Nat, va_A [] H.size q → (va_A [] s.heap.size) q := roF hS hA
        refine va_calli (va_runSN (As := [.int (T 0 p1.toNatClampNeg), .int x4_5]) (rest := []) ⟨hx, hb, hml, hown, hts⟩ (c_X5_hasBit l dC dI cI cC cS H.size (T 0 p1.toNatClampNeg) x4_5) ⟨va_cnB 2 hts gX3_nextAt_X5_hasBit_n34 rfl rfl rfl (hN.at 9 rfl) (hts (.initialized RX5) (List.mem_of_getElem? (i := 5) rfl)) (by decide +kernel) ⟨Nat.le_of_ble_eq_true rfl, Nat.le_of_ble_eq_true rfl⟩, (hts (.static yX5_hasBit) (List.mem_of_getElem? (i := 4) rfl)), trivial⟩ (pS hK (va_P_nil) (va_D_nil) hN) rfl rfl hl.1 rfl (lv_room (Nat.le_of_ble_eq_true rfl)) dX3_nextAt_31 ⟨Nat.le_of_ble_eq_true rfl, Nat.le_of_ble_eq_true rfl⟩) hS (fun q _ h => hFc q h) hFc (fun r_2 u_2 t_2 H3 locs ht hvm hw hB hz1 hk1 hS => ?_)
        obtain ⟨hw, hre4⟩ := hw
        subst hw
        have hP := ro_keep hP hk1
        refine lv_if_eq (tgt := 66) hx hb dX3_nextAt_34 (by decide) (fun c5 => ?_) (fun c5 => ?_)
        · rw [if_pos c5] at hR
          refine lv_iinc (v := x4_5 + 1) (lv' := [(4, .int (x4_5 + 1)), (5, .int (M 5 x4_5.toNatClampNeg)), (0, .ref (a 0)), (1, .int p1), (2, .int p2), (3, .int x3_5)]) hx hb dX3_nextAt_66 hl (k := 5) rfl rfl (by decide) rfl (fun ls hl => ?_)
          refine lv_goto (tgt := 5) hx hb dX3_nextAt_69 (by decide) ?_
          exact ih_5 (j_5 + 1) x3_5 (x4_5 + 1) (by rw [ex4_5, nI_1]) (by omega) (by omega) hs_5 hR _ _ _ hP hS (lv_sub hl [2, 3, 4, 5, 0] rfl)
        · rw [if_neg c5] at hR
          refine lv_iload hx hb dX3_nextAt_37 (lv_at hl 0 rfl) ?_
          refine lv_if_lt (tgt := 66) hx hb dX3_nextAt_39 (by decide) (fun c6 => ?_) (fun c6 => ?_)
          · rw [if_pos c6] at hR
            refine lv_iinc (v := x4_5 + 1) (lv' := [(4, .int (x4_5 + 1)), (5, .int (M 5 x4_5.toNatClampNeg)), (0, .ref (a 0)), (1, .int p1), (2, .int p2), (3, .int x3_5)]) hx hb dX3_nextAt_66 hl (k := 5) rfl rfl (by decide) rfl (fun ls hl => ?_)
            refine lv_goto (tgt := 5) hx hb dX3_nextAt_69 (by decide) ?_
            exact ih_5 (j_5 + 1) x3_5 (x4_5 + 1) (by rw [ex4_5, nI_1]) (by omega) (by omega) hs_5 hR _ _ _ hP hS (lv_sub hl [2, 3, 4, 5, 0] rfl)
          · rw [if_neg c6] at hR
            refine lv_aload_n hx hb dX3_nextAt_42 rfl (lv_at hl 1 rfl) ?_
            refine va_get (D := (dC, dI)) (ci := 3) (v := .ref (a 2)) (C := RX3) (T := TX3) (N := 4) hx hb hts hin3 hown hK hP 0 rfl rfl 2 (by decide) (hts (.fieldLink RX3 15 "FeedDesk$Routes" "distance" "[I") (List.mem_of_getElem? (i := 3) rfl)) (fun _ h9 => h9) rfl dX3_nextAt_43 ?_
            refine lv_iload hx hb dX3_nextAt_46 (lv_at hl 0 rfl) ?_
            refine va_iald (f := T 1) hx hb hK hP 2 0 rfl rfl (wf_ret hW ex4_5 hj_5 c6) dX3_nextAt_48 ?_
            refine lv_iload_n hx hb dX3_nextAt_49 rfl (lv_at hl 3 rfl) ?_
            refine lv_icmp_ne (tgt := 66) hx hb dX3_nextAt_50 (by decide) (fun c7 => ?_) (fun c7 => ?_)
            · rw [if_neg c7] at hR
              refine lv_iinc (v := x4_5 + 1) (lv' := [(4, .int (x4_5 + 1)), (5, .int (M 5 x4_5.toNatClampNeg)), (0, .ref (a 0)), (1, .int p1), (2, .int p2), (3, .int x3_5)]) hx hb dX3_nextAt_66 hl (k := 5) rfl rfl (by decide) rfl (fun ls hl => ?_)
              refine lv_goto (tgt := 5) hx hb dX3_nextAt_69 (by decide) ?_
              exact ih_5 (j_5 + 1) x3_5 (x4_5 + 1) (by rw [ex4_5, nI_1]) (by omega) (by omega) hs_5 hR _ _ _ hP hS (lv_sub hl [2, 3, 4, 5, 0] rfl)
            · rw [if_pos c7] at hR
              refine lv_iload_n hx hb dX3_nextAt_53 rfl (lv_at hl 4 rfl) ?_
              refine lv_if_lt (tgt := 63) hx hb dX3_nextAt_54 (by decide) (fun c8 => ?_) (fun c8 => ?_)
              · rw [if_pos c8] at hR
                refine lv_iload hx hb dX3_nextAt_63 (lv_at hl 0 rfl) ?_
                refine lv_istore_n (lv' := [(3, .int (M 5 x4_5.toNatClampNeg)), (5, .int (M 5 x4_5.toNatClampNeg)), (0, .ref (a 0)), (1, .int p1), (2, .int p2), (4, .int x4_5)]) hx hb dX3_nextAt_65 rfl hl (by decide) rfl (fun ls hl => ?_)
                refine lv_iinc (v := x4_5 + 1) (lv' := [(4, .int (x4_5 + 1)), (3, .int (M 5 x4_5.toNatClampNeg)), (5, .int (M 5 x4_5.toNatClampNeg)), (0, .ref (a 0)), (1, .int p1), (2, .int p2)]) hx hb dX3_nextAt_66 hl (k := 5) rfl rfl (by decide) rfl (fun ls hl => ?_)
                refine lv_goto (tgt := 5) hx hb dX3_nextAt_69 (by decide) ?_
                exact ih_5 (j_5 + 1) (M 5 x4_5.toNatClampNeg) (x4_5 + 1) (by rw [ex4_5, nI_1]) (by omega) (by omega) (Or.inr (wf_ret hW ex4_5 hj_5 c6)) hR _ _ _ hP hS (lv_sub hl [3, 4, 5, 1, 0] rfl)
              · rw [if_neg c8] at hR
                refine lv_iload hx hb dX3_nextAt_57 (lv_at hl 0 rfl) ?_
                refine lv_iload_n hx hb dX3_nextAt_59 rfl (lv_at hl 4 rfl) ?_
                refine lv_icmp_ge (tgt := 66) hx hb dX3_nextAt_60 (by decide) (fun c9 => ?_) (fun c9 => ?_)
                · rw [if_pos c9] at hR
                  refine lv_iinc (v := x4_5 + 1) (lv' := [(4, .int (x4_5 + 1)), (5, .int (M 5 x4_5.toNatClampNeg)), (0, .ref (a 0)), (1, .int p1), (2, .int p2), (3, .int x3_5)]) hx hb dX3_nextAt_66 hl (k := 5) rfl rfl (by decide) rfl (fun ls hl => ?_)
                  refine lv_goto (tgt := 5) hx hb dX3_nextAt_69 (by decide) ?_
                  exact ih_5 (j_5 + 1) x3_5 (x4_5 + 1) (by rw [ex4_5, nI_1]) (by omega) (by omega) hs_5 hR _ _ _ hP hS (lv_sub hl [2, 3, 4, 5, 0] rfl)
                · rw [if_neg c9] at hR
                  refine lv_iload hx hb dX3_nextAt_63 (lv_at hl 0 rfl) ?_
                  refine lv_istore_n (lv' := [(3, .int (M 5 x4_5.toNatClampNeg)), (5, .int (M 5 x4_5.toNatClampNeg)), (0, .ref (a 0)), (1, .int p1), (2, .int p2), (4, .int x4_5)]) hx hb dX3_nextAt_65 rfl hl (by decide) rfl (fun ls hl => ?_)
                  refine lv_iinc (v := x4_5 + 1) (lv' := [(4, .int (x4_5 + 1)), (3, .int (M 5 x4_5.toNatClampNeg)), (5, .int (M 5 x4_5.toNatClampNeg)), (0, .ref (a 0)), (1, .int p1), (2, .int p2)]) hx hb dX3_nextAt_66 hl (k := 5) rfl rfl (by decide) rfl (fun ls hl => ?_)
                  refine lv_goto (tgt := 5) hx hb dX3_nextAt_69 (by decide) ?_
                  exact ih_5 (j_5 + 1) (M 5 x4_5.toNatClampNeg) (x4_5 + 1) (by rw [ex4_5, nI_1]) (by omega) (by omega) (Or.inr (wf_ret hW ex4_5 hj_5 c6)) hR _ _ _ hP hS (lv_sub hl [3, 4, 5, 1, 0] rfl)
  exact hL_5 5 0 (-1) 0 (by decide +kernel) (by decide) (by decide) (Or.inl rfl) hR _ _ _ hP hS (lv_sub hl [2, 3, 4, 1, 0] rfl)
abbrev rm_X3_spread : Room := { frames := 4, cells := 0, slots := 0, locals := 87 }
def f_X3_spread_p2 (M : SR) (p1 : Int32) (p2 : Int32)  : Nat → Int32 → SR → SR
  | 0, _, T_2 => T_2
  | n_2 + 1, x3_2, T_2 => (if 4 ≤ x3_2 then T_2 else (if (f_X4_gainOf M x3_2 p1) ≤ 0 then (f_X3_spread_p2 M p1 p2 n_2) (x3_2 + 1) T_2 else sLet (sU T_2 2 x3_2.toNatClampNeg (if (T_2 2 x3_2.toNatClampNeg) < ((p2 * (f_X4_gainOf M x3_2 p1)) / 100) then ((p2 * (f_X4_gainOf M x3_2 p1)) / 100) else (T_2 2 x3_2.toNatClampNeg))) (fun Tn6 : SR => (f_X3_spread_p2 M p1 p2 n_2) (x3_2 + 1) Tn6)))
def f_X3_spread (T : SR) (M : SR) (p1 : Int32) (p2 : Int32) : SR := f_X3_spread_p2 M p1 p2 5 0 T
set_option maxHeartbeats 4000000 in
set_option maxRecDepth 100000 in
theorem c_X3_spread (l : Launch) (dC : Nat → ClassId) (dI : Nat → Nat → Nat) (cI cC cS : ClassId) (a : Nat → Nat) (b : Nat → Nat) (T : SR) (M : SR) (sz : Nat) (p1 : Int32) (p2 : Int32) (h1 : vp_in p1 12) : Met l yX3_spread wsX3_spread rm_X3_spread (PcG (dC, dI) (tyL cI cC cS) (cRt a b cI T ++ cSt b cI M) sz [.ref (a 0), .int p1, .int p2]) (va_Qv (fun (u : SR) => u = f_X3_spread T M p1 p2) (fun u U => va_P (dC, dI) vwCl (cRt a b cI u ++ cSt b cI M) U.heap ∧ va_D (va_A (cRt a b cI T ++ cSt b cI M) sz) (cRt a b cI u ++ cSt b cI M)) (va_A (cRt a b cI T ++ cSt b cI M) sz)) 0 0 (va_A (cRt a b cI T ++ cSt b cI M) sz) := by
  refine Met.ofW (cc := cX3_spread) (maxL := 5) (ret := none) (by decide) rfl ?_
  intro p e s m args below meth c s₁ B hml hv
  obtain ⟨rfl, hsz, hP, hK, hD0, hN⟩ := hv
  have hx := B.exec
  have hb := B.bytes
  have hr := B.returns
  have hts := atoms_spec (ws := wsX3_spread) B.pre
  have hown : s.vm.findClass RX3 = some m.cls := findClass_of_methodNamed B.named
  have hlocks := B.notSynchronized
  subst hsz
  have hD := hD0.self (sz := s.heap.size)
  have hA : ∀ q : Nat, s.heap.size ≤ q → (va_A (cRt a b cI T ++ cSt b cI M) s.heap.size) q := fun q h => Or.inr h
  have hS : va_S (va_A (cRt a b cI T ++ cSt b cI M) s.heap.size) s.heap s.heap [] := va_S.rf
  have hin3 : ∀ w ∈ wsX30, w ∈ wsX3_spread := fun _ h => List.mem_cons_of_mem _ (List.mem_append_left _ (List.mem_append_right _ h))
  have hl := lv_entry [.ref (a 0), .int p1, .int p2] (n := 5) (Nat.le_of_ble_eq_true rfl)
  rw [lg_entry_eq]
  generalize (lg_sl [.ref (a 0), .int p1, .int p2] ++ List.replicate (5 - (lg_sl [.ref (a 0), .int p1, .int p2]).length) Slot.unset).toArray = ls at hl ⊢
  have hl : lv_has ls 5 [(0, .ref (a 0)), (1, .int p1), (2, .int p2)] := hl
  obtain ⟨R0, eR⟩ : ∃ z, z = f_X3_spread T M p1 p2 := ⟨_, rfl⟩
  have hR := eR
  rw [f_X3_spread] at hR
  refine lv_iconst (v := 0) hx hb dX3_spread_0 (by decide) ?_
  refine lv_istore_n (lv' := [(3, .int 0), (0, .ref (a 0)), (1, .int p1), (2, .int p2)]) hx hb dX3_spread_1 rfl hl (by decide) rfl (fun ls hl => ?_)
  have hL_2 : ∀ n_2 : Nat, ∀ (j_2 : Nat), ∀ (x3_2 : Int32) (T_2 : SR), x3_2 = nI j_2 → j_2 ≤ 4 → 4 < j_2 + n_2 → R0 = f_X3_spread_p2 M p1 p2 n_2 x3_2 T_2 → ∀ (H : Heap) (locs : List Loc) (ls : Array Slot), va_P (dC, dI) vwCl (cRt a b cI T_2 ++ cSt b cI M) H → va_D (va_A (cRt a b cI T ++ cSt b cI M) s.heap.size) (cRt a b cI T_2 ++ cSt b cI M) → va_S (va_A (cRt a b cI T ++ cSt b cI M) s.heap.size) s.heap H locs → lv_has ls 5 [(0, .ref (a 0)), (1, .int p1), (2, .int p2), (3, .int x3_2)] → W p l e (headSpec wsX3_spread rm_X3_spread).room s m ([.ref (a 0), .int p1, .int p2] : List Value).toArray below meth c H locs 0 0 (MQ below (va_Qv (fun (u : SR) => u = f_X3_spread T M p1 p2) (fun u U => va_P (dC, dI) vwCl (cRt a b cI u ++ cSt b cI M) U.heap ∧ va_D (va_A (cRt a b cI T ++ cSt b cI M) s.heap.size) (cRt a b cI u ++ cSt b cI M)) (va_A (cRt a b cI T ++ cSt b cI M) s.heap.size)) ([.ref (a 0), .int p1, .int p2] : List Value).toArray s 0 0 (va_A (cRt a b cI T ++ cSt b cI M) s.heap.size)) (F0 m 2 ls []) := by
    intro n_2
    induction n_2 with
    | zero =>
      intro j_2 x3_2 T_2 ex3_2 hj0_2 hn_2
      exact absurd hn_2 (by omega)
    | succ n_2 ih_2 =>
      intro j_2 x3_2 T_2 ex3_2 hj0_2 hn_2 hR H locs ls hP hD hS hl
      rw [f_X3_spread_p2] at hR
      refine lv_iload_n hx hb dX3_spread_2 rfl (lv_at hl 3 rfl) ?_
      refine lv_iconst (v := 4) hx hb dX3_spread_3 (by decide) ?_
      refine lv_icmp_ge (tgt := 51) hx hb dX3_spread_4 (by decide) (fun c1 => ?_) (fun c1 => ?_)
      · rw [if_pos c1] at hR
        exact W.vret hx hb hr (fun t ht hWw => ⟨⟨T_2, rfl, hR.symm.trans eR, by rw [ht]; exact hP, hD⟩, hS.F ht⟩) hS.2.2 dX3_spread_51
      · rw [if_neg c1] at hR
        have hj_2 : j_2 < 4 := lp_ge ex3_2 (by decide +kernel) (by omega) (by omega) c1
        refine lv_aload_n hx hb dX3_spread_7 rfl (lv_at hl 0 rfl) ?_
        refine va_get (D := (dC, dI)) (ci := 3) (v := .ref (b 0)) (C := RX3) (T := TX3) (N := 4) hx hb hts hin3 hown hK hP 0 rfl rfl 0 (by decide) (hts (.fieldLink RX3 21 "FeedDesk$Routes" "desk" "LFeedDesk$State;") (List.mem_of_getElem? (i := 1) rfl)) (fun _ h9 => h9) rfl dX3_spread_8 ?_
        refine lv_iload_n hx hb dX3_spread_11 rfl (lv_at hl 3 rfl) ?_
        refine lv_iload_n hx hb dX3_spread_12 rfl (lv_at hl 1 rfl) ?_
        have hPc : va_P (dC, dI) vwCl (cSt b cI M) H := hP.sub [4, 5, 6, 7, 8, 9, 10, 11, 12, 13, 14, 15] rfl
        have hDc : va_D (va_A (cRt a b cI T ++ cSt b cI M) s.heap.size) (cSt b cI M) := hD.sub [4, 5, 6, 7, 8, 9, 10, 11, 12, 13, 14, 15] (by decide) rfl
        have hFc : ∀ q : Nat, va_A [] H.size q → (va_A (cRt a b cI T ++ cSt b cI M) s.heap.size) q := roF hS hA
        refine va_calli (va_runV (As := [.int x3_2, .int p1]) (rest := []) ⟨hx, hb, hml, hown, hts⟩ (c_X4_gainOf l dC dI cI cC cS b M H.size x3_2 p1 (by rw [ex3_2]; exact vp_of_B (ix_2 j_2 hj_2)) h1) (cwV 2 hts gX3_spread_X4_gainOf rfl rfl rfl (by decide +kernel) ⟨Nat.le_of_ble_eq_true rfl, Nat.le_of_ble_eq_true rfl⟩) (pV (q0 := 0) hK hPc hDc hN rfl rfl) rfl rfl hl.1 rfl (lv_room (Nat.le_of_ble_eq_true rfl)) dX3_spread_13 ⟨Nat.le_of_ble_eq_true rfl, Nat.le_of_ble_eq_true rfl⟩) hS (fun q _ h => hFc q h) hFc (fun r_2 u_2 t_2 H3 locs ht hvm hw hB hz1 hk1 hS => ?_)
        subst hw
        have hP := ro_keep hP hk1
        refine lv_istore (lv' := [(4, .int (f_X4_gainOf M x3_2 p1)), (0, .ref (a 0)), (1, .int p1), (2, .int p2), (3, .int x3_2)]) hx hb dX3_spread_16 hl (by decide) rfl (fun ls hl => ?_)
        refine lv_iload hx hb dX3_spread_18 (lv_at hl 0 rfl) ?_
        refine lv_if_le (tgt := 45) hx hb dX3_spread_20 (by decide) (fun c4 => ?_) (fun c4 => ?_)
        · rw [if_pos c4] at hR
          refine lv_iinc (v := x3_2 + 1) (lv' := [(3, .int (x3_2 + 1)), (4, .int (f_X4_gainOf M x3_2 p1)), (0, .ref (a 0)), (1, .int p1), (2, .int p2)]) hx hb dX3_spread_45 hl (k := 4) rfl rfl (by decide) rfl (fun ls hl => ?_)
          refine lv_goto (tgt := 2) hx hb dX3_spread_48 (by decide) ?_
          exact ih_2 (j_2 + 1) (x3_2 + 1) T_2 (by rw [ex3_2, nI_1]) (by omega) (by omega) hR _ _ _ hP hD hS (lv_sub hl [2, 3, 4, 0] rfl)
        · rw [if_neg c4] at hR
          refine lv_aload_n hx hb dX3_spread_23 rfl (lv_at hl 1 rfl) ?_
          refine va_get (D := (dC, dI)) (ci := 3) (v := .ref (a 3)) (C := RX3) (T := TX3) (N := 4) hx hb hts hin3 hown hK hP 0 rfl rfl 3 (by decide) (hts (.fieldLink RX3 18 "FeedDesk$Routes" "best" "[I") (List.mem_of_getElem? (i := 2) rfl)) (fun _ h9 => h9) rfl dX3_spread_24 ?_
          refine lv_iload_n hx hb dX3_spread_27 rfl (lv_at hl 4 rfl) ?_
          refine lv_aload_n hx hb dX3_spread_28 rfl (lv_at hl 1 rfl) ?_
          refine va_get (D := (dC, dI)) (ci := 3) (v := .ref (a 3)) (C := RX3) (T := TX3) (N := 4) hx hb hts hin3 hown hK hP 0 rfl rfl 3 (by decide) (hts (.fieldLink RX3 18 "FeedDesk$Routes" "best" "[I") (List.mem_of_getElem? (i := 2) rfl)) (fun _ h9 => h9) rfl dX3_spread_29 ?_
          refine lv_iload_n hx hb dX3_spread_32 rfl (lv_at hl 4 rfl) ?_
          refine va_iald (f := T_2 2) hx hb hK hP 3 0 rfl rfl (by rw [ex3_2]; exact vp_of_B (ix_2 j_2 hj_2)) dX3_spread_33 ?_
          refine lv_iload_n hx hb dX3_spread_34 rfl (lv_at hl 3 rfl) ?_
          refine lv_iload hx hb dX3_spread_35 (lv_at hl 0 rfl) ?_
          refine lv_imul hx hb dX3_spread_37 ?_
          refine lv_bipush (v := 100) hx hb dX3_spread_38 (by decide) ?_
          refine lv_idiv hx hb dX3_spread_40 (by decide) ?_
          refine va_mmax hx hb (hml.trans hl.1.symm) hown (hts (.methodLink RX3 67 Lib.Math.max.name) (List.mem_of_getElem? (i := 3) rfl)) (hts (.static Lib.Math.max.name) (List.mem_of_getElem? (i := 4) rfl)) (hts (.initialized "java/lang/Math") (List.mem_of_getElem? (i := 5) rfl)) (hts (.code Lib.Math.max.name Lib.Math.max.code 2 (some .int)) (List.mem_of_getElem? (i := 6) rfl)) (Nat.le_of_ble_eq_true rfl) (Nat.le_of_ble_eq_true rfl) (Nat.le_of_ble_eq_true rfl) (Nat.le_of_ble_eq_true rfl) dX3_spread_41 ?_
          refine va_iast (f := T_2 2) hx hb hK hP hD hS 3 0 rfl rfl (by rw [ex3_2]; exact vp_of_B (ix_2 j_2 hj_2)) dX3_spread_44 (fun H5 locs hP hD hS => ?_)
          have hP : va_P (dC, dI) vwCl (cRt a b cI (sU T_2 2 x3_2.toNatClampNeg (if (T_2 2 x3_2.toNatClampNeg) < ((p2 * (f_X4_gainOf M x3_2 p1)) / 100) then ((p2 * (f_X4_gainOf M x3_2 p1)) / 100) else (T_2 2 x3_2.toNatClampNeg))) ++ cSt b cI M) H5 := hP
          have hD : va_D (va_A (cRt a b cI T ++ cSt b cI M) s.heap.size) (cRt a b cI (sU T_2 2 x3_2.toNatClampNeg (if (T_2 2 x3_2.toNatClampNeg) < ((p2 * (f_X4_gainOf M x3_2 p1)) / 100) then ((p2 * (f_X4_gainOf M x3_2 p1)) / 100) else (T_2 2 x3_2.toNatClampNeg))) ++ cSt b cI M) := hD
          obtain ⟨Tn6, eTn6⟩ : ∃ z : SR, z = sU T_2 2 x3_2.toNatClampNeg (if (T_2 2 x3_2.toNatClampNeg) < ((p2 * (f_X4_gainOf M x3_2 p1)) / 100) then ((p2 * (f_X4_gainOf M x3_2 p1)) / 100) else (T_2 2 x3_2.toNatClampNeg)) := ⟨_, rfl⟩
          rw [sLet_eq, ← eTn6] at hR
          rw [← eTn6] at hP hD
          refine lv_iinc (v := x3_2 + 1) (lv' := [(3, .int (x3_2 + 1)), (4, .int (f_X4_gainOf M x3_2 p1)), (0, .ref (a 0)), (1, .int p1), (2, .int p2)]) hx hb dX3_spread_45 hl (k := 4) rfl rfl (by decide) rfl (fun ls hl => ?_)
          refine lv_goto (tgt := 2) hx hb dX3_spread_48 (by decide) ?_
          exact ih_2 (j_2 + 1) (x3_2 + 1) Tn6 (by rw [ex3_2, nI_1]) (by omega) (by omega) hR _ _ _ hP hD hS (lv_sub hl [2, 3, 4, 0] rfl)
  exact hL_2 5 0 0 T (by decide +kernel) (by decide) (by decide) hR _ _ _ hP hD hS (lv_sub hl [1, 2, 3, 0] rfl)
abbrev rm_X3_greatestGain : Room := { frames := 5, cells := 0, slots := 0, locals := 111 }
def f_X3_greatestGain_p38 (M : SR) (p1 : Int32) (p2 : Int32) (kb30 : Int32 → SR → (Int32 × SR)) : Nat → Int32 → Int32 → SR → (Int32 × SR)
  | 0, _, _, T_38 => (0, T_38)
  | n_38 + 1, x3_38, x4_38, T_38 => (if 4 ≤ x4_38 then kb30 (x3_38 + 1) T_38 else (if (T_38 2 x4_38.toNatClampNeg) = (-99) then (f_X3_greatestGain_p38 M p1 p2 kb30 n_38) x3_38 (x4_38 + 1) T_38 else (if (M 5 x4_38.toNatClampNeg) < 0 then (f_X3_greatestGain_p38 M p1 p2 kb30 n_38) x3_38 (x4_38 + 1) T_38 else sLet ((f_X3_spread T_38 M (M 5 x4_38.toNatClampNeg) (T_38 2 x4_38.toNatClampNeg))) (fun Tn11 : SR => (f_X3_greatestGain_p38 M p1 p2 kb30 n_38) x3_38 (x4_38 + 1) Tn11))))
def f_X3_greatestGain_p30 (M : SR) (p1 : Int32) (p2 : Int32)  : Nat → Int32 → SR → (Int32 × SR)
  | 0, _, T_30 => (0, T_30)
  | n_30 + 1, x3_30, T_30 => (if 4 < x3_30 then (T_30 2 p2.toNatClampNeg, T_30) else f_X3_greatestGain_p38 M p1 p2 (f_X3_greatestGain_p30 M p1 p2 n_30) 5 x3_30 0 T_30)
def f_X3_greatestGain_p2 (M : SR) (p1 : Int32) (p2 : Int32)  : Nat → Int32 → SR → (Int32 × SR)
  | 0, _, T_2 => (0, T_2)
  | n_2 + 1, x3_2, T_2 => (if 4 ≤ x3_2 then sLet ((f_X3_spread T_2 M p1 100)) (fun Tn4 : SR => f_X3_greatestGain_p30 M p1 p2 6 2 Tn4) else sLet (sU T_2 2 x3_2.toNatClampNeg (-99)) (fun Tn13 : SR => (f_X3_greatestGain_p2 M p1 p2 n_2) (x3_2 + 1) Tn13))
def f_X3_greatestGain (T : SR) (M : SR) (p1 : Int32) (p2 : Int32) : Int32 × SR := f_X3_greatestGain_p2 M p1 p2 5 0 T
set_option maxHeartbeats 4000000 in
set_option maxRecDepth 100000 in
theorem c_X3_greatestGain (l : Launch) (dC : Nat → ClassId) (dI : Nat → Nat → Nat) (cI cC cS : ClassId) (a : Nat → Nat) (b : Nat → Nat) (T : SR) (M : SR) (sz : Nat) (p1 : Int32) (p2 : Int32) (h1 : vp_in p1 12) (h2 : vp_in p2 4) (hW : WF M) : Met l yX3_greatestGain wsX3_greatestGain rm_X3_greatestGain (PcG (dC, dI) (tyL cI cC cS) (cRt a b cI T ++ cSt b cI M) sz [.ref (a 0), .int p1, .int p2]) (va_Qi (fun (r : Int32) (u : SR) => (r, u) = f_X3_greatestGain T M p1 p2) (fun u U => va_P (dC, dI) vwCl (cRt a b cI u ++ cSt b cI M) U.heap ∧ va_D (va_A (cRt a b cI T ++ cSt b cI M) sz) (cRt a b cI u ++ cSt b cI M)) (va_A (cRt a b cI T ++ cSt b cI M) sz)) 0 0 (va_A (cRt a b cI T ++ cSt b cI M) sz) := by
  refine Met.ofW (cc := cX3_greatestGain) (maxL := 6) (ret := (some .int)) (by decide) rfl ?_
  intro p e s m args below meth c s₁ B hml hv
  obtain ⟨rfl, hsz, hP, hK, hD0, hN⟩ := hv
  have hx := B.exec
  have hb := B.bytes
  have hr := B.returns
  have hts := atoms_spec (ws := wsX3_greatestGain) B.pre
  have hown : s.vm.findClass RX3 = some m.cls := findClass_of_methodNamed B.named
  have hlocks := B.notSynchronized
  subst hsz
  have hD := hD0.self (sz := s.heap.size)
  have hA : ∀ q : Nat, s.heap.size ≤ q → (va_A (cRt a b cI T ++ cSt b cI M) s.heap.size) q := fun q h => Or.inr h
  have hS : va_S (va_A (cRt a b cI T ++ cSt b cI M) s.heap.size) s.heap s.heap [] := va_S.rf
  have hin3 : ∀ w ∈ wsX30, w ∈ wsX3_greatestGain := fun _ h => List.mem_cons_of_mem _ (List.mem_append_left _ (List.mem_append_right _ h))
  have hin4 : ∀ w ∈ wsX40, w ∈ wsX3_greatestGain := fun _ h => List.mem_cons_of_mem _ (List.mem_append_right _ h)
  have hl := lv_entry [.ref (a 0), .int p1, .int p2] (n := 6) (Nat.le_of_ble_eq_true rfl)
  rw [lg_entry_eq]
  generalize (lg_sl [.ref (a 0), .int p1, .int p2] ++ List.replicate (6 - (lg_sl [.ref (a 0), .int p1, .int p2]).length) Slot.unset).toArray = ls at hl ⊢
  have hl : lv_has ls 6 [(0, .ref (a 0)), (1, .int p1), (2, .int p2)] := hl
  obtain ⟨R0, eR⟩ : ∃ z, z = f_X3_greatestGain T M p1 p2 := ⟨_, rfl⟩
  have hR := eR
  rw [f_X3_greatestGain] at hR
  refine lv_iconst (v := 0) hx hb dX3_greatestGain_0 (by decide) ?_
  refine lv_istore_n (lv' := [(3, .int 0), (0, .ref (a 0)), (1, .int p1), (2, .int p2)]) hx hb dX3_greatestGain_1 rfl hl (by decide) rfl (fun ls hl => ?_)
  have hL_2 : ∀ n_2 : Nat, ∀ (j_2 : Nat), ∀ (x3_2 : Int32) (T_2 : SR), x3_2 = nI j_2 → j_2 ≤ 4 → 4 < j_2 + n_2 → R0 = f_X3_greatestGain_p2 M p1 p2 n_2 x3_2 T_2 → ∀ (H : Heap) (locs : List Loc) (ls : Array Slot), va_P (dC, dI) vwCl (cRt a b cI T_2 ++ cSt b cI M) H → va_D (va_A (cRt a b cI T ++ cSt b cI M) s.heap.size) (cRt a b cI T_2 ++ cSt b cI M) → va_S (va_A (cRt a b cI T ++ cSt b cI M) s.heap.size) s.heap H locs → lv_has ls 6 [(0, .ref (a 0)), (1, .int p1), (2, .int p2), (3, .int x3_2)] → W p l e (headSpec wsX3_greatestGain rm_X3_greatestGain).room s m ([.ref (a 0), .int p1, .int p2] : List Value).toArray below meth c H locs 0 0 (MQ below (va_Qi (fun (r : Int32) (u : SR) => (r, u) = f_X3_greatestGain T M p1 p2) (fun u U => va_P (dC, dI) vwCl (cRt a b cI u ++ cSt b cI M) U.heap ∧ va_D (va_A (cRt a b cI T ++ cSt b cI M) s.heap.size) (cRt a b cI u ++ cSt b cI M)) (va_A (cRt a b cI T ++ cSt b cI M) s.heap.size)) ([.ref (a 0), .int p1, .int p2] : List Value).toArray s 0 0 (va_A (cRt a b cI T ++ cSt b cI M) s.heap.size)) (F0 m 2 ls []) := by
    intro n_2
    induction n_2 with
    | zero =>
      intro j_2 x3_2 T_2 ex3_2 hj0_2 hn_2
      exact absurd hn_2 (by omega)
    | succ n_2 ih_2 =>
      intro j_2 x3_2 T_2 ex3_2 hj0_2 hn_2 hR H locs ls hP hD hS hl
      rw [f_X3_greatestGain_p2] at hR
      refine lv_iload_n hx hb dX3_greatestGain_2 rfl (lv_at hl 3 rfl) ?_
      refine lv_iconst (v := 4) hx hb dX3_greatestGain_3 (by decide) ?_
      refine lv_icmp_ge (tgt := 21) hx hb dX3_greatestGain_4 (by decide) (fun c1 => ?_) (fun c1 => ?_)
      · rw [if_pos c1] at hR
        refine lv_aload_n hx hb dX3_greatestGain_21 rfl (lv_at hl 0 rfl) ?_
        refine lv_iload_n hx hb dX3_greatestGain_22 rfl (lv_at hl 1 rfl) ?_
        refine lv_bipush (v := 100) hx hb dX3_greatestGain_23 (by decide) ?_
        have hPc : va_P (dC, dI) vwCl (cRt a b cI T_2 ++ cSt b cI M) H := hP.sub [0, 1, 2, 3, 4, 5, 6, 7, 8, 9, 10, 11, 12, 13, 14, 15] rfl
        have hDc : va_D (va_A (cRt a b cI T ++ cSt b cI M) s.heap.size) (cRt a b cI T_2 ++ cSt b cI M) := hD.sub [0, 1, 2, 3, 4, 5, 6, 7, 8, 9, 10, 11, 12, 13, 14, 15] (by decide) rfl
        have hFc : ∀ q : Nat, va_A (cRt a b cI T_2 ++ cSt b cI M) H.size q → (va_A (cRt a b cI T ++ cSt b cI M) s.heap.size) q := va_free hD hS hA [0, 1, 2, 3, 4, 5, 6, 7, 8, 9, 10, 11, 12, 13, 14, 15] rfl
        refine va_callv (va_runV (As := [.int p1, .int 100]) (rest := []) ⟨hx, hb, hml, hown, hts⟩ (c_X3_spread l dC dI cI cC cS a b T_2 M H.size p1 100 h1) (cwV 2 hts gX3_greatestGain_X3_spread rfl rfl rfl (by decide +kernel) ⟨Nat.le_of_ble_eq_true rfl, Nat.le_of_ble_eq_true rfl⟩) (pV (q0 := 0) hK hPc hDc hN rfl rfl) rfl rfl hl.1 rfl (lv_room (Nat.le_of_ble_eq_true rfl)) dX3_greatestGain_25 ⟨Nat.le_of_ble_eq_true rfl, Nat.le_of_ble_eq_true rfl⟩) hS (fun q _ h => hFc q h) hFc (fun u_2 t_2 H3 locs ht hvm hw hB hz1 hk1 hS => ?_)
        obtain ⟨hP1, hD1⟩ := hB
        rw [ht] at hP1
        subst hw
        obtain ⟨hP, hD⟩ := va_join (wc := cRt a b cI T_2 ++ cSt b cI M) (wr := []) (w1 := cRt a b cI (f_X3_spread T_2 M p1 100) ++ cSt b cI M) hP hD [0, 1, 2, 3, 4, 5, 6, 7, 8, 9, 10, 11, 12, 13, 14, 15] [] rfl rfl (by decide) (by decide) hk1 hFc hP1 hD1
        have hP : va_P (dC, dI) vwCl (cRt a b cI (f_X3_spread T_2 M p1 100) ++ cSt b cI M) H3 := hP.sub [0, 1, 2, 3, 4, 5, 6, 7, 8, 9, 10, 11, 12, 13, 14, 15] rfl
        have hD : va_D (va_A (cRt a b cI T ++ cSt b cI M) s.heap.size) (cRt a b cI (f_X3_spread T_2 M p1 100) ++ cSt b cI M) := hD.sub [0, 1, 2, 3, 4, 5, 6, 7, 8, 9, 10, 11, 12, 13, 14, 15] (by decide) rfl
        obtain ⟨Tn4, eTn4⟩ : ∃ z : SR, z = (f_X3_spread T_2 M p1 100) := ⟨_, rfl⟩
        rw [sLet_eq, ← eTn4] at hR
        rw [← eTn4] at hP hD
        refine lv_iconst (v := 2) hx hb dX3_greatestGain_28 (by decide) ?_
        refine lv_istore_n (lv' := [(3, .int 2), (0, .ref (a 0)), (1, .int p1), (2, .int p2)]) hx hb dX3_greatestGain_29 rfl hl (by decide) rfl (fun ls hl => ?_)
        have hL_30 : ∀ n_30 : Nat, ∀ (j_30 : Nat), ∀ (x3_30 : Int32) (T_30 : SR), x3_30 = nI j_30 → j_30 ≤ 5 → 5 < j_30 + n_30 → R0 = f_X3_greatestGain_p30 M p1 p2 n_30 x3_30 T_30 → ∀ (H : Heap) (locs : List Loc) (ls : Array Slot), va_P (dC, dI) vwCl (cRt a b cI T_30 ++ cSt b cI M) H → va_D (va_A (cRt a b cI T ++ cSt b cI M) s.heap.size) (cRt a b cI T_30 ++ cSt b cI M) → va_S (va_A (cRt a b cI T ++ cSt b cI M) s.heap.size) s.heap H locs → lv_has ls 6 [(0, .ref (a 0)), (1, .int p1), (2, .int p2), (3, .int x3_30)] → W p l e (headSpec wsX3_greatestGain rm_X3_greatestGain).room s m ([.ref (a 0), .int p1, .int p2] : List Value).toArray below meth c H locs 0 0 (MQ below (va_Qi (fun (r : Int32) (u : SR) => (r, u) = f_X3_greatestGain T M p1 p2) (fun u U => va_P (dC, dI) vwCl (cRt a b cI u ++ cSt b cI M) U.heap ∧ va_D (va_A (cRt a b cI T ++ cSt b cI M) s.heap.size) (cRt a b cI u ++ cSt b cI M)) (va_A (cRt a b cI T ++ cSt b cI M) s.heap.size)) ([.ref (a 0), .int p1, .int p2] : List Value).toArray s 0 0 (va_A (cRt a b cI T ++ cSt b cI M) s.heap.size)) (F0 m 30 ls []) := by
          intro n_30
          induction n_30 with
          | zero =>
            intro j_30 x3_30 T_30 ex3_30 hj0_30 hn_30
            exact absurd hn_30 (by omega)
          | succ n_30 ih_30 =>
            intro j_30 x3_30 T_30 ex3_30 hj0_30 hn_30 hR H locs ls hP hD hS hl
            rw [f_X3_greatestGain_p30] at hR
            refine lv_iload_n hx hb dX3_greatestGain_30 rfl (lv_at hl 3 rfl) ?_
            refine lv_iconst (v := 4) hx hb dX3_greatestGain_31 (by decide) ?_
            refine lv_icmp_gt (tgt := 98) hx hb dX3_greatestGain_32 (by decide) (fun c5 => ?_) (fun c5 => ?_)
            · rw [if_pos c5] at hR
              refine lv_aload_n hx hb dX3_greatestGain_98 rfl (lv_at hl 0 rfl) ?_
              refine va_get (D := (dC, dI)) (ci := 3) (v := .ref (a 3)) (C := RX3) (T := TX3) (N := 4) hx hb hts hin3 hown hK hP 0 rfl rfl 3 (by decide) (hts (.fieldLink RX3 18 "FeedDesk$Routes" "best" "[I") (List.mem_of_getElem? (i := 1) rfl)) (fun _ h9 => h9) rfl dX3_greatestGain_99 ?_
              refine lv_iload_n hx hb dX3_greatestGain_102 rfl (lv_at hl 2 rfl) ?_
              refine va_iald (f := T_30 2) hx hb hK hP 3 0 rfl rfl h2 dX3_greatestGain_103 ?_
              exact W.iret (v := T_30 2 p2.toNatClampNeg) hx hb hr (fun t ht hWw => ⟨⟨T_30 2 p2.toNatClampNeg, T_30, rfl, hR.symm.trans eR, by rw [ht]; exact hP, hD⟩, hS.F ht⟩) hS.2.2 dX3_greatestGain_104
            · rw [if_neg c5] at hR
              have hj_30 : j_30 < 5 := lp_gt ex3_30 (by decide +kernel) (by omega) (by omega) c5
              refine lv_iconst (v := 0) hx hb dX3_greatestGain_35 (by decide) ?_
              refine lv_istore (lv' := [(4, .int 0), (0, .ref (a 0)), (1, .int p1), (2, .int p2), (3, .int x3_30)]) hx hb dX3_greatestGain_36 hl (by decide) rfl (fun ls hl => ?_)
              have hL_38 : ∀ n_38 : Nat, ∀ (j_38 : Nat), ∀ (x3_38 : Int32) (x4_38 : Int32) (T_38 : SR), x4_38 = nI j_38 → j_38 ≤ 4 → 4 < j_38 + n_38 → x3_38 = nI j_30 → R0 = f_X3_greatestGain_p38 M p1 p2 (f_X3_greatestGain_p30 M p1 p2 n_30) n_38 x3_38 x4_38 T_38 → ∀ (H : Heap) (locs : List Loc) (ls : Array Slot), va_P (dC, dI) vwCl (cRt a b cI T_38 ++ cSt b cI M) H → va_D (va_A (cRt a b cI T ++ cSt b cI M) s.heap.size) (cRt a b cI T_38 ++ cSt b cI M) → va_S (va_A (cRt a b cI T ++ cSt b cI M) s.heap.size) s.heap H locs → lv_has ls 6 [(0, .ref (a 0)), (1, .int p1), (2, .int p2), (3, .int x3_38), (4, .int x4_38)] → W p l e (headSpec wsX3_greatestGain rm_X3_greatestGain).room s m ([.ref (a 0), .int p1, .int p2] : List Value).toArray below meth c H locs 0 0 (MQ below (va_Qi (fun (r : Int32) (u : SR) => (r, u) = f_X3_greatestGain T M p1 p2) (fun u U => va_P (dC, dI) vwCl (cRt a b cI u ++ cSt b cI M) U.heap ∧ va_D (va_A (cRt a b cI T ++ cSt b cI M) s.heap.size) (cRt a b cI u ++ cSt b cI M)) (va_A (cRt a b cI T ++ cSt b cI M) s.heap.size)) ([.ref (a 0), .int p1, .int p2] : List Value).toArray s 0 0 (va_A (cRt a b cI T ++ cSt b cI M) s.heap.size)) (F0 m 38 ls []) := by
                intro n_38
                induction n_38 with
                | zero =>
                  intro j_38 x3_38 x4_38 T_38 ex4_38 hj0_38 hn_38 ex3_38
                  exact absurd hn_38 (by omega)
                | succ n_38 ih_38 =>
                  intro j_38 x3_38 x4_38 T_38 ex4_38 hj0_38 hn_38 ex3_38 hR H locs ls hP hD hS hl
                  rw [f_X3_greatestGain_p38] at hR
                  refine lv_iload hx hb dX3_greatestGain_38 (lv_at hl 4 rfl) ?_
                  refine lv_iconst (v := 4) hx hb dX3_greatestGain_40 (by decide) ?_
                  refine lv_icmp_ge (tgt := 92) hx hb dX3_greatestGain_41 (by decide) (fun c6 => ?_) (fun c6 => ?_)
                  · rw [if_pos c6] at hR
                    refine lv_iinc (v := x3_38 + 1) (lv' := [(3, .int (x3_38 + 1)), (0, .ref (a 0)), (1, .int p1), (2, .int p2), (4, .int x4_38)]) hx hb dX3_greatestGain_92 hl (k := 3) rfl rfl (by decide) rfl (fun ls hl => ?_)
                    refine lv_goto (tgt := 30) hx hb dX3_greatestGain_95 (by decide) ?_
                    exact ih_30 (j_30 + 1) (x3_38 + 1) T_38 (by rw [ex3_38, nI_1]) (by omega) (by omega) hR _ _ _ hP hD hS (lv_sub hl [1, 2, 3, 0] rfl)
                  · rw [if_neg c6] at hR
                    have hj_38 : j_38 < 4 := lp_ge ex4_38 (by decide +kernel) (by omega) (by omega) c6
                    refine lv_aload_n hx hb dX3_greatestGain_44 rfl (lv_at hl 0 rfl) ?_
                    refine va_get (D := (dC, dI)) (ci := 3) (v := .ref (b 0)) (C := RX3) (T := TX3) (N := 4) hx hb hts hin3 hown hK hP 0 rfl rfl 0 (by decide) (hts (.fieldLink RX3 21 "FeedDesk$Routes" "desk" "LFeedDesk$State;") (List.mem_of_getElem? (i := 2) rfl)) (fun _ h9 => h9) rfl dX3_greatestGain_45 ?_
                    refine va_getN (D := (dC, dI)) (ci := 4) (v := .ref (b 6)) (C := RX4) (T := TX4) (N := 18) hx hb hts hin4 hown hK hP 4 rfl rfl 8 (by decide) (va_Nw.use rfl (hN.at 24 rfl)) (fun _ h9 => h9) rfl dX3_greatestGain_48 ?_
                    refine lv_iload hx hb dX3_greatestGain_51 (lv_at hl 4 rfl) ?_
                    refine va_iald (f := M 5) hx hb hK hP 10 0 rfl rfl (by rw [ex4_38]; exact vp_of_B (ix_2 j_38 hj_38)) dX3_greatestGain_53 ?_
                    refine lv_istore (lv' := [(5, .int (M 5 x4_38.toNatClampNeg)), (0, .ref (a 0)), (1, .int p1), (2, .int p2), (3, .int x3_38), (4, .int x4_38)]) hx hb dX3_greatestGain_54 hl (by decide) rfl (fun ls hl => ?_)
                    refine lv_aload_n hx hb dX3_greatestGain_56 rfl (lv_at hl 1 rfl) ?_
                    refine va_get (D := (dC, dI)) (ci := 3) (v := .ref (a 3)) (C := RX3) (T := TX3) (N := 4) hx hb hts hin3 hown hK hP 0 rfl rfl 3 (by decide) (hts (.fieldLink RX3 18 "FeedDesk$Routes" "best" "[I") (List.mem_of_getElem? (i := 1) rfl)) (fun _ h9 => h9) rfl dX3_greatestGain_57 ?_
                    refine lv_iload hx hb dX3_greatestGain_60 (lv_at hl 5 rfl) ?_
                    refine va_iald (f := T_38 2) hx hb hK hP 3 0 rfl rfl (by rw [ex4_38]; exact vp_of_B (ix_2 j_38 hj_38)) dX3_greatestGain_62 ?_
                    refine lv_bipush (v := (-99)) hx hb dX3_greatestGain_63 (by decide) ?_
                    refine lv_icmp_eq (tgt := 86) hx hb dX3_greatestGain_65 (by decide) (fun c7 => ?_) (fun c7 => ?_)
                    · rw [if_pos c7] at hR
                      refine lv_iinc (v := x4_38 + 1) (lv' := [(4, .int (x4_38 + 1)), (5, .int (M 5 x4_38.toNatClampNeg)), (0, .ref (a 0)), (1, .int p1), (2, .int p2), (3, .int x3_38)]) hx hb dX3_greatestGain_86 hl (k := 5) rfl rfl (by decide) rfl (fun ls hl => ?_)
                      refine lv_goto (tgt := 38) hx hb dX3_greatestGain_89 (by decide) ?_
                      exact ih_38 (j_38 + 1) x3_38 (x4_38 + 1) T_38 (by rw [ex4_38, nI_1]) (by omega) (by omega) ex3_38 hR _ _ _ hP hD hS (lv_sub hl [2, 3, 4, 5, 0] rfl)
                    · rw [if_neg c7] at hR
                      refine lv_iload hx hb dX3_greatestGain_68 (lv_at hl 0 rfl) ?_
                      refine lv_if_lt (tgt := 86) hx hb dX3_greatestGain_70 (by decide) (fun c8 => ?_) (fun c8 => ?_)
                      · rw [if_pos c8] at hR
                        refine lv_iinc (v := x4_38 + 1) (lv' := [(4, .int (x4_38 + 1)), (5, .int (M 5 x4_38.toNatClampNeg)), (0, .ref (a 0)), (1, .int p1), (2, .int p2), (3, .int x3_38)]) hx hb dX3_greatestGain_86 hl (k := 5) rfl rfl (by decide) rfl (fun ls hl => ?_)
                        refine lv_goto (tgt := 38) hx hb dX3_greatestGain_89 (by decide) ?_
                        exact ih_38 (j_38 + 1) x3_38 (x4_38 + 1) T_38 (by rw [ex4_38, nI_1]) (by omega) (by omega) ex3_38 hR _ _ _ hP hD hS (lv_sub hl [2, 3, 4, 5, 0] rfl)
                      · rw [if_neg c8] at hR
                        refine lv_aload_n hx hb dX3_greatestGain_73 rfl (lv_at hl 1 rfl) ?_
                        refine lv_iload hx hb dX3_greatestGain_74 (lv_at hl 0 rfl) ?_
                        refine lv_aload_n hx hb dX3_greatestGain_76 rfl (lv_at hl 1 rfl) ?_
                        refine va_get (D := (dC, dI)) (ci := 3) (v := .ref (a 3)) (C := RX3) (T := TX3) (N := 4) hx hb hts hin3 hown hK hP 0 rfl rfl 3 (by decide) (hts (.fieldLink RX3 18 "FeedDesk$Routes" "best" "[I") (List.mem_of_getElem? (i := 1) rfl)) (fun _ h9 => h9) rfl dX3_greatestGain_77 ?_
                        refine lv_iload hx hb dX3_greatestGain_80 (lv_at hl 5 rfl) ?_
                        refine va_iald (f := T_38 2) hx hb hK hP 3 0 rfl rfl (by rw [ex4_38]; exact vp_of_B (ix_2 j_38 hj_38)) dX3_greatestGain_82 ?_
                        have hPc : va_P (dC, dI) vwCl (cRt a b cI T_38 ++ cSt b cI M) H := hP.sub [0, 1, 2, 3, 4, 5, 6, 7, 8, 9, 10, 11, 12, 13, 14, 15] rfl
                        have hDc : va_D (va_A (cRt a b cI T ++ cSt b cI M) s.heap.size) (cRt a b cI T_38 ++ cSt b cI M) := hD.sub [0, 1, 2, 3, 4, 5, 6, 7, 8, 9, 10, 11, 12, 13, 14, 15] (by decide) rfl
                        have hFc : ∀ q : Nat, va_A (cRt a b cI T_38 ++ cSt b cI M) H.size q → (va_A (cRt a b cI T ++ cSt b cI M) s.heap.size) q := va_free hD hS hA [0, 1, 2, 3, 4, 5, 6, 7, 8, 9, 10, 11, 12, 13, 14, 15] rfl
                        refine va_callv (va_runV (As := [.int (M 5 x4_38.toNatClampNeg), .int (T_38 2 x4_38.toNatClampNeg)]) (rest := []) ⟨hx, hb, hml, hown, hts⟩ (c_X3_spread l dC dI cI cC cS a b T_38 M H.size (M 5 x4_38.toNatClampNeg) (T_38 2 x4_38.toNatClampNeg) (wf_ret hW ex4_38 hj_38 c8)) (cwV 2 hts gX3_greatestGain_X3_spread rfl rfl rfl (by decide +kernel) ⟨Nat.le_of_ble_eq_true rfl, Nat.le_of_ble_eq_true rfl⟩) (pV (q0 := 0) hK hPc hDc hN rfl rfl) rfl rfl hl.1 rfl (lv_room (Nat.le_of_ble_eq_true rfl)) dX3_greatestGain_83 ⟨Nat.le_of_ble_eq_true rfl, Nat.le_of_ble_eq_true rfl⟩) hS (fun q _ h => hFc q h) hFc (fun u_9 t_9 H10 locs ht hvm hw hB hz1 hk1 hS => ?_)
                        obtain ⟨hP1, hD1⟩ := hB
                        rw [ht] at hP1
                        subst hw
                        obtain ⟨hP, hD⟩ := va_join (wc := cRt a b cI T_38 ++ cSt b cI M) (wr := []) (w1 := cRt a b cI (f_X3_spread T_38 M (M 5 x4_38.toNatClampNeg) (T_38 2 x4_38.toNatClampNeg)) ++ cSt b cI M) hP hD [0, 1, 2, 3, 4, 5, 6, 7, 8, 9, 10, 11, 12, 13, 14, 15] [] rfl rfl (by decide) (by decide) hk1 hFc hP1 hD1
                        have hP : va_P (dC, dI) vwCl (cRt a b cI (f_X3_spread T_38 M (M 5 x4_38.toNatClampNeg) (T_38 2 x4_38.toNatClampNeg)) ++ cSt b cI M) H10 := hP.sub [0, 1, 2, 3, 4, 5, 6, 7, 8, 9, 10, 11, 12, 13, 14, 15] rfl
                        have hD : va_D (va_A (cRt a b cI T ++ cSt b cI M) s.heap.size) (cRt a b cI (f_X3_spread T_38 M (M 5 x4_38.toNatClampNeg) (T_38 2 x4_38.toNatClampNeg)) ++ cSt b cI M) := hD.sub [0, 1, 2, 3, 4, 5, 6, 7, 8, 9, 10, 11, 12, 13, 14, 15] (by decide) rfl
                        obtain ⟨Tn11, eTn11⟩ : ∃ z : SR, z = (f_X3_spread T_38 M (M 5 x4_38.toNatClampNeg) (T_38 2 x4_38.toNatClampNeg)) := ⟨_, rfl⟩
                        rw [sLet_eq, ← eTn11] at hR
                        rw [← eTn11] at hP hD
                        refine lv_iinc (v := x4_38 + 1) (lv' := [(4, .int (x4_38 + 1)), (5, .int (M 5 x4_38.toNatClampNeg)), (0, .ref (a 0)), (1, .int p1), (2, .int p2), (3, .int x3_38)]) hx hb dX3_greatestGain_86 hl (k := 5) rfl rfl (by decide) rfl (fun ls hl => ?_)
                        refine lv_goto (tgt := 38) hx hb dX3_greatestGain_89 (by decide) ?_
                        exact ih_38 (j_38 + 1) x3_38 (x4_38 + 1) Tn11 (by rw [ex4_38, nI_1]) (by omega) (by omega) ex3_38 hR _ _ _ hP hD hS (lv_sub hl [2, 3, 4, 5, 0] rfl)
              exact hL_38 5 0 x3_30 0 T_30 (by decide +kernel) (by decide) (by decide) ex3_30 hR _ _ _ hP hD hS (lv_sub hl [1, 2, 3, 4, 0] rfl)
        exact hL_30 6 2 2 Tn4 (by decide +kernel) (by decide) (by decide) hR _ _ _ hP hD hS (lv_sub hl [1, 2, 3, 0] rfl)
      · rw [if_neg c1] at hR
        have hj_2 : j_2 < 4 := lp_ge ex3_2 (by decide +kernel) (by omega) (by omega) c1
        refine lv_aload_n hx hb dX3_greatestGain_7 rfl (lv_at hl 0 rfl) ?_
        refine va_get (D := (dC, dI)) (ci := 3) (v := .ref (a 3)) (C := RX3) (T := TX3) (N := 4) hx hb hts hin3 hown hK hP 0 rfl rfl 3 (by decide) (hts (.fieldLink RX3 18 "FeedDesk$Routes" "best" "[I") (List.mem_of_getElem? (i := 1) rfl)) (fun _ h9 => h9) rfl dX3_greatestGain_8 ?_
        refine lv_iload_n hx hb dX3_greatestGain_11 rfl (lv_at hl 3 rfl) ?_
        refine lv_bipush (v := (-99)) hx hb dX3_greatestGain_12 (by decide) ?_
        refine va_iast (f := T_2 2) hx hb hK hP hD hS 3 0 rfl rfl (by rw [ex3_2]; exact vp_of_B (ix_2 j_2 hj_2)) dX3_greatestGain_14 (fun H12 locs hP hD hS => ?_)
        have hP : va_P (dC, dI) vwCl (cRt a b cI (sU T_2 2 x3_2.toNatClampNeg (-99)) ++ cSt b cI M) H12 := hP
        have hD : va_D (va_A (cRt a b cI T ++ cSt b cI M) s.heap.size) (cRt a b cI (sU T_2 2 x3_2.toNatClampNeg (-99)) ++ cSt b cI M) := hD
        obtain ⟨Tn13, eTn13⟩ : ∃ z : SR, z = sU T_2 2 x3_2.toNatClampNeg (-99) := ⟨_, rfl⟩
        rw [sLet_eq, ← eTn13] at hR
        rw [← eTn13] at hP hD
        refine lv_iinc (v := x3_2 + 1) (lv' := [(3, .int (x3_2 + 1)), (0, .ref (a 0)), (1, .int p1), (2, .int p2)]) hx hb dX3_greatestGain_15 hl (k := 3) rfl rfl (by decide) rfl (fun ls hl => ?_)
        refine lv_goto (tgt := 2) hx hb dX3_greatestGain_18 (by decide) ?_
        exact ih_2 (j_2 + 1) (x3_2 + 1) Tn13 (by rw [ex3_2, nI_1]) (by omega) (by omega) hR _ _ _ hP hD hS (lv_sub hl [1, 2, 3, 0] rfl)
  exact hL_2 5 0 0 T (by decide +kernel) (by decide) (by decide) hR _ _ _ hP hD hS (lv_sub hl [1, 2, 3, 0] rfl)
abbrev rm_X3_measure : Room := { frames := 2, cells := 0, slots := 0, locals := 46 }
def f_X3_measure_p47 (M : SR) (p1 : Int32) (kb40 : Int32 → SR → SR) : Nat → Int32 → Int32 → SR → SR
  | 0, _, _, T_47 => T_47
  | n_47 + 1, x2_47, x3_47, T_47 => (if 12 ≤ x3_47 then kb40 (x2_47 + 1) T_47 else (if (T_47 1 x3_47.toNatClampNeg) = 0 then (if (f_X3_nextAt T_47 M x3_47 (x2_47 - 1)) < 0 then (f_X3_measure_p47 M p1 kb40 n_47) x2_47 (x3_47 + 1) T_47 else sLet (sU T_47 1 x3_47.toNatClampNeg x2_47) (fun Tn10 : SR => (f_X3_measure_p47 M p1 kb40 n_47) x2_47 (x3_47 + 1) Tn10)) else (f_X3_measure_p47 M p1 kb40 n_47) x2_47 (x3_47 + 1) T_47))
def f_X3_measure_p40 (M : SR) (p1 : Int32)  : Nat → Int32 → SR → SR
  | 0, _, T_40 => T_40
  | n_40 + 1, x2_40, T_40 => (if 4 < x2_40 then T_40 else f_X3_measure_p47 M p1 (f_X3_measure_p40 M p1 n_40) 13 x2_40 0 T_40)
def f_X3_measure_p2 (M : SR) (p1 : Int32)  : Nat → Int32 → SR → SR
  | 0, _, T_2 => T_2
  | n_2 + 1, x2_2, T_2 => (if 12 ≤ x2_2 then f_X3_measure_p40 M p1 6 2 T_2 else (if (f_X5_hasBit (T_2 0 x2_2.toNatClampNeg) p1) = 0 then sLet (sU T_2 1 x2_2.toNatClampNeg 0) (fun Tn16 : SR => (f_X3_measure_p2 M p1 n_2) (x2_2 + 1) Tn16) else sLet (sU T_2 1 x2_2.toNatClampNeg 1) (fun Tn18 : SR => (f_X3_measure_p2 M p1 n_2) (x2_2 + 1) Tn18)))
def f_X3_measure (T : SR) (M : SR) (p1 : Int32) : SR := f_X3_measure_p2 M p1 13 0 T
set_option maxHeartbeats 4000000 in
set_option maxRecDepth 100000 in
theorem c_X3_measure (l : Launch) (dC : Nat → ClassId) (dI : Nat → Nat → Nat) (cI cC cS : ClassId) (a : Nat → Nat) (b : Nat → Nat) (T : SR) (M : SR) (sz : Nat) (p1 : Int32) (hW : WF M) : Met l yX3_measure wsX3_measure rm_X3_measure (PcG (dC, dI) (tyL cI cC cS) (cRt a b cI T ++ cSt b cI M) sz [.ref (a 0), .int p1]) (va_Qv (fun (u : SR) => u = f_X3_measure T M p1) (fun u U => va_P (dC, dI) vwCl (cRt a b cI u ++ cSt b cI M) U.heap ∧ va_D (va_A (cRt a b cI T ++ cSt b cI M) sz) (cRt a b cI u ++ cSt b cI M)) (va_A (cRt a b cI T ++ cSt b cI M) sz)) 0 0 (va_A (cRt a b cI T ++ cSt b cI M) sz) := by
  refine Met.ofW (cc := cX3_measure) (maxL := 4) (ret := none) (by decide) rfl ?_
  intro p e s m args below meth c s₁ B hml hv
  obtain ⟨rfl, hsz, hP, hK, hD0, hN⟩ := hv
  have hx := B.exec
  have hb := B.bytes
  have hr := B.returns
  have hts := atoms_spec (ws := wsX3_measure) B.pre
  have hown : s.vm.findClass RX3 = some m.cls := findClass_of_methodNamed B.named
  have hlocks := B.notSynchronized
  subst hsz
  have hD := hD0.self (sz := s.heap.size)
  have hA : ∀ q : Nat, s.heap.size ≤ q → (va_A (cRt a b cI T ++ cSt b cI M) s.heap.size) q := fun q h => Or.inr h
  have hS : va_S (va_A (cRt a b cI T ++ cSt b cI M) s.heap.size) s.heap s.heap [] := va_S.rf
  have hin3 : ∀ w ∈ wsX30, w ∈ wsX3_measure := fun _ h => List.mem_cons_of_mem _ (List.mem_append_left _ (List.mem_append_right _ h))
  have hl := lv_entry [.ref (a 0), .int p1] (n := 4) (Nat.le_of_ble_eq_true rfl)
  rw [lg_entry_eq]
  generalize (lg_sl [.ref (a 0), .int p1] ++ List.replicate (4 - (lg_sl [.ref (a 0), .int p1]).length) Slot.unset).toArray = ls at hl ⊢
  have hl : lv_has ls 4 [(0, .ref (a 0)), (1, .int p1)] := hl
  obtain ⟨R0, eR⟩ : ∃ z, z = f_X3_measure T M p1 := ⟨_, rfl⟩
  have hR := eR
  rw [f_X3_measure] at hR
  refine lv_iconst (v := 0) hx hb dX3_measure_0 (by decide) ?_
  refine lv_istore_n (lv' := [(2, .int 0), (0, .ref (a 0)), (1, .int p1)]) hx hb dX3_measure_1 rfl hl (by decide) rfl (fun ls hl => ?_)
  have hL_2 : ∀ n_2 : Nat, ∀ (j_2 : Nat), ∀ (x2_2 : Int32) (T_2 : SR), x2_2 = nI j_2 → j_2 ≤ 12 → 12 < j_2 + n_2 → R0 = f_X3_measure_p2 M p1 n_2 x2_2 T_2 → ∀ (H : Heap) (locs : List Loc) (ls : Array Slot), va_P (dC, dI) vwCl (cRt a b cI T_2 ++ cSt b cI M) H → va_D (va_A (cRt a b cI T ++ cSt b cI M) s.heap.size) (cRt a b cI T_2 ++ cSt b cI M) → va_S (va_A (cRt a b cI T ++ cSt b cI M) s.heap.size) s.heap H locs → lv_has ls 4 [(0, .ref (a 0)), (1, .int p1), (2, .int x2_2)] → W p l e (headSpec wsX3_measure rm_X3_measure).room s m ([.ref (a 0), .int p1] : List Value).toArray below meth c H locs 0 0 (MQ below (va_Qv (fun (u : SR) => u = f_X3_measure T M p1) (fun u U => va_P (dC, dI) vwCl (cRt a b cI u ++ cSt b cI M) U.heap ∧ va_D (va_A (cRt a b cI T ++ cSt b cI M) s.heap.size) (cRt a b cI u ++ cSt b cI M)) (va_A (cRt a b cI T ++ cSt b cI M) s.heap.size)) ([.ref (a 0), .int p1] : List Value).toArray s 0 0 (va_A (cRt a b cI T ++ cSt b cI M) s.heap.size)) (F0 m 2 ls []) := by
    intro n_2
    induction n_2 with
    | zero =>
      intro j_2 x2_2 T_2 ex2_2 hj0_2 hn_2
      exact absurd hn_2 (by omega)
    | succ n_2 ih_2 =>
      intro j_2 x2_2 T_2 ex2_2 hj0_2 hn_2 hR H locs ls hP hD hS hl
      rw [f_X3_measure_p2] at hR
      refine lv_iload_n hx hb dX3_measure_2 rfl (lv_at hl 2 rfl) ?_
      refine lv_bipush (v := 12) hx hb dX3_measure_3 (by decide) ?_
      refine lv_icmp_ge (tgt := 38) hx hb dX3_measure_5 (by decide) (fun c1 => ?_) (fun c1 => ?_)
      · rw [if_pos c1] at hR
        refine lv_iconst (v := 2) hx hb dX3_measure_38 (by decide) ?_
        refine lv_istore_n (lv' := [(2, .int 2), (0, .ref (a 0)), (1, .int p1)]) hx hb dX3_measure_39 rfl hl (by decide) rfl (fun ls hl => ?_)
        have hL_40 : ∀ n_40 : Nat, ∀ (j_40 : Nat), ∀ (x2_40 : Int32) (T_40 : SR), x2_40 = nI j_40 → j_40 ≤ 5 → 5 < j_40 + n_40 → R0 = f_X3_measure_p40 M p1 n_40 x2_40 T_40 → ∀ (H : Heap) (locs : List Loc) (ls : Array Slot), va_P (dC, dI) vwCl (cRt a b cI T_40 ++ cSt b cI M) H → va_D (va_A (cRt a b cI T ++ cSt b cI M) s.heap.size) (cRt a b cI T_40 ++ cSt b cI M) → va_S (va_A (cRt a b cI T ++ cSt b cI M) s.heap.size) s.heap H locs → lv_has ls 4 [(0, .ref (a 0)), (1, .int p1), (2, .int x2_40)] → W p l e (headSpec wsX3_measure rm_X3_measure).room s m ([.ref (a 0), .int p1] : List Value).toArray below meth c H locs 0 0 (MQ below (va_Qv (fun (u : SR) => u = f_X3_measure T M p1) (fun u U => va_P (dC, dI) vwCl (cRt a b cI u ++ cSt b cI M) U.heap ∧ va_D (va_A (cRt a b cI T ++ cSt b cI M) s.heap.size) (cRt a b cI u ++ cSt b cI M)) (va_A (cRt a b cI T ++ cSt b cI M) s.heap.size)) ([.ref (a 0), .int p1] : List Value).toArray s 0 0 (va_A (cRt a b cI T ++ cSt b cI M) s.heap.size)) (F0 m 40 ls []) := by
          intro n_40
          induction n_40 with
          | zero =>
            intro j_40 x2_40 T_40 ex2_40 hj0_40 hn_40
            exact absurd hn_40 (by omega)
          | succ n_40 ih_40 =>
            intro j_40 x2_40 T_40 ex2_40 hj0_40 hn_40 hR H locs ls hP hD hS hl
            rw [f_X3_measure_p40] at hR
            refine lv_iload_n hx hb dX3_measure_40 rfl (lv_at hl 2 rfl) ?_
            refine lv_iconst (v := 4) hx hb dX3_measure_41 (by decide) ?_
            refine lv_icmp_gt (tgt := 92) hx hb dX3_measure_42 (by decide) (fun c2 => ?_) (fun c2 => ?_)
            · rw [if_pos c2] at hR
              exact W.vret hx hb hr (fun t ht hWw => ⟨⟨T_40, rfl, hR.symm.trans eR, by rw [ht]; exact hP, hD⟩, hS.F ht⟩) hS.2.2 dX3_measure_92
            · rw [if_neg c2] at hR
              have hj_40 : j_40 < 5 := lp_gt ex2_40 (by decide +kernel) (by omega) (by omega) c2
              refine lv_iconst (v := 0) hx hb dX3_measure_45 (by decide) ?_
              refine lv_istore_n (lv' := [(3, .int 0), (0, .ref (a 0)), (1, .int p1), (2, .int x2_40)]) hx hb dX3_measure_46 rfl hl (by decide) rfl (fun ls hl => ?_)
              have hL_47 : ∀ n_47 : Nat, ∀ (j_47 : Nat), ∀ (x2_47 : Int32) (x3_47 : Int32) (T_47 : SR), x3_47 = nI j_47 → j_47 ≤ 12 → 12 < j_47 + n_47 → x2_47 = nI j_40 → R0 = f_X3_measure_p47 M p1 (f_X3_measure_p40 M p1 n_40) n_47 x2_47 x3_47 T_47 → ∀ (H : Heap) (locs : List Loc) (ls : Array Slot), va_P (dC, dI) vwCl (cRt a b cI T_47 ++ cSt b cI M) H → va_D (va_A (cRt a b cI T ++ cSt b cI M) s.heap.size) (cRt a b cI T_47 ++ cSt b cI M) → va_S (va_A (cRt a b cI T ++ cSt b cI M) s.heap.size) s.heap H locs → lv_has ls 4 [(0, .ref (a 0)), (1, .int p1), (2, .int x2_47), (3, .int x3_47)] → W p l e (headSpec wsX3_measure rm_X3_measure).room s m ([.ref (a 0), .int p1] : List Value).toArray below meth c H locs 0 0 (MQ below (va_Qv (fun (u : SR) => u = f_X3_measure T M p1) (fun u U => va_P (dC, dI) vwCl (cRt a b cI u ++ cSt b cI M) U.heap ∧ va_D (va_A (cRt a b cI T ++ cSt b cI M) s.heap.size) (cRt a b cI u ++ cSt b cI M)) (va_A (cRt a b cI T ++ cSt b cI M) s.heap.size)) ([.ref (a 0), .int p1] : List Value).toArray s 0 0 (va_A (cRt a b cI T ++ cSt b cI M) s.heap.size)) (F0 m 47 ls []) := by
                intro n_47
                induction n_47 with
                | zero =>
                  intro j_47 x2_47 x3_47 T_47 ex3_47 hj0_47 hn_47 ex2_47
                  exact absurd hn_47 (by omega)
                | succ n_47 ih_47 =>
                  intro j_47 x2_47 x3_47 T_47 ex3_47 hj0_47 hn_47 ex2_47 hR H locs ls hP hD hS hl
                  rw [f_X3_measure_p47] at hR
                  refine lv_iload_n hx hb dX3_measure_47 rfl (lv_at hl 3 rfl) ?_
                  refine lv_bipush (v := 12) hx hb dX3_measure_48 (by decide) ?_
                  refine lv_icmp_ge (tgt := 86) hx hb dX3_measure_50 (by decide) (fun c3 => ?_) (fun c3 => ?_)
                  · rw [if_pos c3] at hR
                    refine lv_iinc (v := x2_47 + 1) (lv' := [(2, .int (x2_47 + 1)), (0, .ref (a 0)), (1, .int p1), (3, .int x3_47)]) hx hb dX3_measure_86 hl (k := 2) rfl rfl (by decide) rfl (fun ls hl => ?_)
                    refine lv_goto (tgt := 40) hx hb dX3_measure_89 (by decide) ?_
                    exact ih_40 (j_40 + 1) (x2_47 + 1) T_47 (by rw [ex2_47, nI_1]) (by omega) (by omega) hR _ _ _ hP hD hS (lv_sub hl [1, 2, 0] rfl)
                  · rw [if_neg c3] at hR
                    have hj_47 : j_47 < 12 := lp_ge ex3_47 (by decide +kernel) (by omega) (by omega) c3
                    refine lv_aload_n hx hb dX3_measure_53 rfl (lv_at hl 0 rfl) ?_
                    refine va_get (D := (dC, dI)) (ci := 3) (v := .ref (a 2)) (C := RX3) (T := TX3) (N := 4) hx hb hts hin3 hown hK hP 0 rfl rfl 2 (by decide) (hts (.fieldLink RX3 15 "FeedDesk$Routes" "distance" "[I") (List.mem_of_getElem? (i := 1) rfl)) (fun _ h9 => h9) rfl dX3_measure_54 ?_
                    refine lv_iload_n hx hb dX3_measure_57 rfl (lv_at hl 3 rfl) ?_
                    refine va_iald (f := T_47 1) hx hb hK hP 2 0 rfl rfl (by rw [ex3_47]; exact vp_of_B (ix_1 j_47 hj_47)) dX3_measure_58 ?_
                    refine lv_if_ne (tgt := 80) hx hb dX3_measure_59 (by decide) (fun c4 => ?_) (fun c4 => ?_)
                    · rw [if_neg c4] at hR
                      refine lv_iinc (v := x3_47 + 1) (lv' := [(3, .int (x3_47 + 1)), (0, .ref (a 0)), (1, .int p1), (2, .int x2_47)]) hx hb dX3_measure_80 hl (k := 3) rfl rfl (by decide) rfl (fun ls hl => ?_)
                      refine lv_goto (tgt := 47) hx hb dX3_measure_83 (by decide) ?_
                      exact ih_47 (j_47 + 1) x2_47 (x3_47 + 1) T_47 (by rw [ex3_47, nI_1]) (by omega) (by omega) ex2_47 hR _ _ _ hP hD hS (lv_sub hl [1, 2, 3, 0] rfl)
                    · rw [if_pos c4] at hR
                      refine lv_aload_n hx hb dX3_measure_62 rfl (lv_at hl 0 rfl) ?_
                      refine lv_iload_n hx hb dX3_measure_63 rfl (lv_at hl 3 rfl) ?_
                      refine lv_iload_n hx hb dX3_measure_64 rfl (lv_at hl 2 rfl) ?_
                      refine lv_iconst (v := 1) hx hb dX3_measure_65 (by decide) ?_
                      refine lv_isub hx hb dX3_measure_66 ?_
                      have hPc : va_P (dC, dI) vwCl (cRt a b cI T_47 ++ cSt b cI M) H := hP.sub [0, 1, 2, 3, 4, 5, 6, 7, 8, 9, 10, 11, 12, 13, 14, 15] rfl
                      have hDc : va_D (va_A (cRt a b cI T ++ cSt b cI M) s.heap.size) (cRt a b cI T_47 ++ cSt b cI M) := hD.sub [0, 1, 2, 3, 4, 5, 6, 7, 8, 9, 10, 11, 12, 13, 14, 15] (by decide) rfl
                      have hFc : ∀ q : Nat, va_A [] H.size q → (va_A (cRt a b cI T ++ cSt b cI M) s.heap.size) q := roF hS hA
                      refine va_calli (va_runV (As := [.int x3_47, .int (x2_47 - 1)]) (rest := []) ⟨hx, hb, hml, hown, hts⟩ (c_X3_nextAt l dC dI cI cC cS a b T_47 M H.size x3_47 (x2_47 - 1) (by rw [ex3_47]; exact vp_of_B (ix_1 j_47 hj_47)) hW) (cwV 2 hts gX3_measure_X3_nextAt rfl rfl rfl (by decide +kernel) ⟨Nat.le_of_ble_eq_true rfl, Nat.le_of_ble_eq_true rfl⟩) (pV (q0 := 0) hK hPc hDc hN rfl rfl) rfl rfl hl.1 rfl (lv_room (Nat.le_of_ble_eq_true rfl)) dX3_measure_67 ⟨Nat.le_of_ble_eq_true rfl, Nat.le_of_ble_eq_true rfl⟩) hS (fun q _ h => hFc q h) hFc (fun r_5 u_5 t_5 H6 locs ht hvm hw hB hz1 hk1 hS => ?_)
                      obtain ⟨hw, hre7⟩ := hw
                      subst hw
                      have hP := ro_keep hP hk1
                      refine lv_if_lt (tgt := 80) hx hb dX3_measure_70 (by decide) (fun c8 => ?_) (fun c8 => ?_)
                      · rw [if_pos c8] at hR
                        refine lv_iinc (v := x3_47 + 1) (lv' := [(3, .int (x3_47 + 1)), (0, .ref (a 0)), (1, .int p1), (2, .int x2_47)]) hx hb dX3_measure_80 hl (k := 3) rfl rfl (by decide) rfl (fun ls hl => ?_)
                        refine lv_goto (tgt := 47) hx hb dX3_measure_83 (by decide) ?_
                        exact ih_47 (j_47 + 1) x2_47 (x3_47 + 1) T_47 (by rw [ex3_47, nI_1]) (by omega) (by omega) ex2_47 hR _ _ _ hP hD hS (lv_sub hl [1, 2, 3, 0] rfl)
                      · rw [if_neg c8] at hR
                        refine lv_aload_n hx hb dX3_measure_73 rfl (lv_at hl 0 rfl) ?_
                        refine va_get (D := (dC, dI)) (ci := 3) (v := .ref (a 2)) (C := RX3) (T := TX3) (N := 4) hx hb hts hin3 hown hK hP 0 rfl rfl 2 (by decide) (hts (.fieldLink RX3 15 "FeedDesk$Routes" "distance" "[I") (List.mem_of_getElem? (i := 1) rfl)) (fun _ h9 => h9) rfl dX3_measure_74 ?_
                        refine lv_iload_n hx hb dX3_measure_77 rfl (lv_at hl 3 rfl) ?_
                        refine lv_iload_n hx hb dX3_measure_78 rfl (lv_at hl 2 rfl) ?_
                        refine va_iast (f := T_47 1) hx hb hK hP hD hS 2 0 rfl rfl (by rw [ex3_47]; exact vp_of_B (ix_1 j_47 hj_47)) dX3_measure_79 (fun H9 locs hP hD hS => ?_)
                        have hP : va_P (dC, dI) vwCl (cRt a b cI (sU T_47 1 x3_47.toNatClampNeg x2_47) ++ cSt b cI M) H9 := hP
                        have hD : va_D (va_A (cRt a b cI T ++ cSt b cI M) s.heap.size) (cRt a b cI (sU T_47 1 x3_47.toNatClampNeg x2_47) ++ cSt b cI M) := hD
                        obtain ⟨Tn10, eTn10⟩ : ∃ z : SR, z = sU T_47 1 x3_47.toNatClampNeg x2_47 := ⟨_, rfl⟩
                        rw [sLet_eq, ← eTn10] at hR
                        rw [← eTn10] at hP hD
                        refine lv_iinc (v := x3_47 + 1) (lv' := [(3, .int (x3_47 + 1)), (0, .ref (a 0)), (1, .int p1), (2, .int x2_47)]) hx hb dX3_measure_80 hl (k := 3) rfl rfl (by decide) rfl (fun ls hl => ?_)
                        refine lv_goto (tgt := 47) hx hb dX3_measure_83 (by decide) ?_
                        exact ih_47 (j_47 + 1) x2_47 (x3_47 + 1) Tn10 (by rw [ex3_47, nI_1]) (by omega) (by omega) ex2_47 hR _ _ _ hP hD hS (lv_sub hl [1, 2, 3, 0] rfl)
              exact hL_47 13 0 x2_40 0 T_40 (by decide +kernel) (by decide) (by decide) ex2_40 hR _ _ _ hP hD hS (lv_sub hl [1, 2, 3, 0] rfl)
        exact hL_40 6 2 2 T_2 (by decide +kernel) (by decide) (by decide) hR _ _ _ hP hD hS (lv_sub hl [1, 2, 0] rfl)
      · rw [if_neg c1] at hR
        have hj_2 : j_2 < 12 := lp_ge ex2_2 (by decide +kernel) (by omega) (by omega) c1
        refine lv_aload_n hx hb dX3_measure_8 rfl (lv_at hl 0 rfl) ?_
        refine va_get (D := (dC, dI)) (ci := 3) (v := .ref (a 2)) (C := RX3) (T := TX3) (N := 4) hx hb hts hin3 hown hK hP 0 rfl rfl 2 (by decide) (hts (.fieldLink RX3 15 "FeedDesk$Routes" "distance" "[I") (List.mem_of_getElem? (i := 1) rfl)) (fun _ h9 => h9) rfl dX3_measure_9 ?_
        refine lv_iload_n hx hb dX3_measure_12 rfl (lv_at hl 2 rfl) ?_
        refine lv_aload_n hx hb dX3_measure_13 rfl (lv_at hl 0 rfl) ?_
        refine va_get (D := (dC, dI)) (ci := 3) (v := .ref (a 1)) (C := RX3) (T := TX3) (N := 4) hx hb hts hin3 hown hK hP 0 rfl rfl 1 (by decide) (hts (.fieldLink RX3 9 "FeedDesk$Routes" "reached" "[I") (List.mem_of_getElem? (i := 2) rfl)) (fun _ h9 => h9) rfl dX3_measure_14 ?_
        refine lv_iload_n hx hb dX3_measure_17 rfl (lv_at hl 2 rfl) ?_
        refine va_iald (f := T_2 0) hx hb hK hP 1 0 rfl rfl (by rw [ex2_2]; exact vp_of_B (ix_1 j_2 hj_2)) dX3_measure_18 ?_
        refine lv_iload_n hx hb dX3_measure_19 rfl (lv_at hl 1 rfl) ?_
        have hFc : ∀ q : Nat, va_A [] H.size q → (va_A (cRt a b cI T ++ cSt b cI M) s.heap.size) q := roF hS hA
        refine va_calli (va_runSN (As := [.int (T_2 0 x2_2.toNatClampNeg), .int p1]) (rest := [.int x2_2, .ref (a 2)]) ⟨hx, hb, hml, hown, hts⟩ (c_X5_hasBit l dC dI cI cC cS H.size (T_2 0 x2_2.toNatClampNeg) p1) ⟨va_cnB 2 hts gX3_measure_X5_hasBit_n34 rfl rfl rfl (hN.at 9 rfl) (hts (.initialized RX5) (List.mem_of_getElem? (i := 4) rfl)) (by decide +kernel) ⟨Nat.le_of_ble_eq_true rfl, Nat.le_of_ble_eq_true rfl⟩, (hts (.static yX5_hasBit) (List.mem_of_getElem? (i := 3) rfl)), trivial⟩ (pS hK (va_P_nil) (va_D_nil) hN) rfl rfl hl.1 rfl (lv_room (Nat.le_of_ble_eq_true rfl)) dX3_measure_20 ⟨Nat.le_of_ble_eq_true rfl, Nat.le_of_ble_eq_true rfl⟩) hS (fun q _ h => hFc q h) hFc (fun r_11 u_11 t_11 H12 locs ht hvm hw hB hz1 hk1 hS => ?_)
        obtain ⟨hw, hre13⟩ := hw
        subst hw
        have hP := ro_keep hP hk1
        refine lv_if_eq (tgt := 30) hx hb dX3_measure_23 (by decide) (fun c14 => ?_) (fun c14 => ?_)
        · rw [if_pos c14] at hR
          refine lv_iconst (v := 0) hx hb dX3_measure_30 (by decide) ?_
          refine va_iast (f := T_2 1) hx hb hK hP hD hS 2 0 rfl rfl (by rw [ex2_2]; exact vp_of_B (ix_1 j_2 hj_2)) dX3_measure_31 (fun H15 locs hP hD hS => ?_)
          have hP : va_P (dC, dI) vwCl (cRt a b cI (sU T_2 1 x2_2.toNatClampNeg 0) ++ cSt b cI M) H15 := hP
          have hD : va_D (va_A (cRt a b cI T ++ cSt b cI M) s.heap.size) (cRt a b cI (sU T_2 1 x2_2.toNatClampNeg 0) ++ cSt b cI M) := hD
          obtain ⟨Tn16, eTn16⟩ : ∃ z : SR, z = sU T_2 1 x2_2.toNatClampNeg 0 := ⟨_, rfl⟩
          rw [sLet_eq, ← eTn16] at hR
          rw [← eTn16] at hP hD
          refine lv_iinc (v := x2_2 + 1) (lv' := [(2, .int (x2_2 + 1)), (0, .ref (a 0)), (1, .int p1)]) hx hb dX3_measure_32 hl (k := 2) rfl rfl (by decide) rfl (fun ls hl => ?_)
          refine lv_goto (tgt := 2) hx hb dX3_measure_35 (by decide) ?_
          exact ih_2 (j_2 + 1) (x2_2 + 1) Tn16 (by rw [ex2_2, nI_1]) (by omega) (by omega) hR _ _ _ hP hD hS (lv_sub hl [1, 2, 0] rfl)
        · rw [if_neg c14] at hR
          refine lv_iconst (v := 1) hx hb dX3_measure_26 (by decide) ?_
          refine lv_goto (tgt := 31) hx hb dX3_measure_27 (by decide) ?_
          refine va_iast (f := T_2 1) hx hb hK hP hD hS 2 0 rfl rfl (by rw [ex2_2]; exact vp_of_B (ix_1 j_2 hj_2)) dX3_measure_31 (fun H17 locs hP hD hS => ?_)
          have hP : va_P (dC, dI) vwCl (cRt a b cI (sU T_2 1 x2_2.toNatClampNeg 1) ++ cSt b cI M) H17 := hP
          have hD : va_D (va_A (cRt a b cI T ++ cSt b cI M) s.heap.size) (cRt a b cI (sU T_2 1 x2_2.toNatClampNeg 1) ++ cSt b cI M) := hD
          obtain ⟨Tn18, eTn18⟩ : ∃ z : SR, z = sU T_2 1 x2_2.toNatClampNeg 1 := ⟨_, rfl⟩
          rw [sLet_eq, ← eTn18] at hR
          rw [← eTn18] at hP hD
          refine lv_iinc (v := x2_2 + 1) (lv' := [(2, .int (x2_2 + 1)), (0, .ref (a 0)), (1, .int p1)]) hx hb dX3_measure_32 hl (k := 2) rfl rfl (by decide) rfl (fun ls hl => ?_)
          refine lv_goto (tgt := 2) hx hb dX3_measure_35 (by decide) ?_
          exact ih_2 (j_2 + 1) (x2_2 + 1) Tn18 (by rw [ex2_2, nI_1]) (by omega) (by omega) hR _ _ _ hP hD hS (lv_sub hl [1, 2, 0] rfl)
  exact hL_2 13 0 0 T (by decide +kernel) (by decide) (by decide) hR _ _ _ hP hD hS (lv_sub hl [1, 2, 0] rfl)
abbrev rm_X3_shortest : Room := { frames := 3, cells := 0, slots := 0, locals := 69 }
def f_X3_shortest_p43 (M : SR) (p1 : Int32) (p2 : Int32) (p3 : Int32)  : Nat → Int32 → Int32 → Int32 → SR → (Int32 × SR)
  | 0, _, _, _, T_43 => (0, T_43)
  | n_43 + 1, x4_43, x5_43, x6_43, T_43 => (if x6_43 < (x4_43 - p3) then (x5_43, T_43) else (if 0 ≤ (f_X3_nextAt T_43 M x5_43 x6_43) then (f_X3_shortest_p43 M p1 p2 p3 n_43) x4_43 (f_X3_nextAt T_43 M x5_43 x6_43) (x6_43 + (-1)) T_43 else ((-99), T_43)))
def f_X3_shortest (T : SR) (M : SR) (p1 : Int32) (p2 : Int32) (p3 : Int32) : Int32 × SR := sLet ((f_X3_measure T M p2)) (fun Tn3 : SR => (if (Tn3 1 p1.toNatClampNeg) = 0 then ((-99), Tn3) else (if p3 < (Tn3 1 p1.toNatClampNeg) then (if 0 ≤ p3 then f_X3_shortest_p43 M p1 p2 p3 (p3.toNatClampNeg + 1) (Tn3 1 p1.toNatClampNeg) p1 ((Tn3 1 p1.toNatClampNeg) - 1) Tn3 else (Tn3 1 p1.toNatClampNeg, Tn3)) else ((-99), Tn3))))
set_option maxHeartbeats 4000000 in
set_option maxRecDepth 100000 in
theorem c_X3_shortest (l : Launch) (dC : Nat → ClassId) (dI : Nat → Nat → Nat) (cI cC cS : ClassId) (a : Nat → Nat) (b : Nat → Nat) (T : SR) (M : SR) (sz : Nat) (p1 : Int32) (p2 : Int32) (p3 : Int32) (h1 : vp_in p1 12) (hW : WF M) : Met l yX3_shortest wsX3_shortest rm_X3_shortest (PcG (dC, dI) (tyL cI cC cS) (cRt a b cI T ++ cSt b cI M) sz [.ref (a 0), .int p1, .int p2, .int p3]) (va_Qi (fun (r : Int32) (u : SR) => (r, u) = f_X3_shortest T M p1 p2 p3) (fun u U => va_P (dC, dI) vwCl (cRt a b cI u ++ cSt b cI M) U.heap ∧ va_D (va_A (cRt a b cI T ++ cSt b cI M) sz) (cRt a b cI u ++ cSt b cI M)) (va_A (cRt a b cI T ++ cSt b cI M) sz)) 0 0 (va_A (cRt a b cI T ++ cSt b cI M) sz) := by
  refine Met.ofW (cc := cX3_shortest) (maxL := 8) (ret := (some .int)) (by decide) rfl ?_
  intro p e s m args below meth c s₁ B hml hv
  obtain ⟨rfl, hsz, hP, hK, hD0, hN⟩ := hv
  have hx := B.exec
  have hb := B.bytes
  have hr := B.returns
  have hts := atoms_spec (ws := wsX3_shortest) B.pre
  have hown : s.vm.findClass RX3 = some m.cls := findClass_of_methodNamed B.named
  have hlocks := B.notSynchronized
  subst hsz
  have hD := hD0.self (sz := s.heap.size)
  have hA : ∀ q : Nat, s.heap.size ≤ q → (va_A (cRt a b cI T ++ cSt b cI M) s.heap.size) q := fun q h => Or.inr h
  have hS : va_S (va_A (cRt a b cI T ++ cSt b cI M) s.heap.size) s.heap s.heap [] := va_S.rf
  have hin3 : ∀ w ∈ wsX30, w ∈ wsX3_shortest := fun _ h => List.mem_cons_of_mem _ (List.mem_append_left _ (List.mem_append_right _ h))
  have hl := lv_entry [.ref (a 0), .int p1, .int p2, .int p3] (n := 8) (Nat.le_of_ble_eq_true rfl)
  rw [lg_entry_eq]
  generalize (lg_sl [.ref (a 0), .int p1, .int p2, .int p3] ++ List.replicate (8 - (lg_sl [.ref (a 0), .int p1, .int p2, .int p3]).length) Slot.unset).toArray = ls at hl ⊢
  have hl : lv_has ls 8 [(0, .ref (a 0)), (1, .int p1), (2, .int p2), (3, .int p3)] := hl
  obtain ⟨R0, eR⟩ : ∃ z, z = f_X3_shortest T M p1 p2 p3 := ⟨_, rfl⟩
  have hR := eR
  rw [f_X3_shortest] at hR
  refine lv_aload_n hx hb dX3_shortest_0 rfl (lv_at hl 0 rfl) ?_
  refine lv_iload_n hx hb dX3_shortest_1 rfl (lv_at hl 2 rfl) ?_
  have hPc : va_P (dC, dI) vwCl (cRt a b cI T ++ cSt b cI M) s.heap := hP.sub [0, 1, 2, 3, 4, 5, 6, 7, 8, 9, 10, 11, 12, 13, 14, 15] rfl
  have hDc : va_D (va_A (cRt a b cI T ++ cSt b cI M) s.heap.size) (cRt a b cI T ++ cSt b cI M) := hD.sub [0, 1, 2, 3, 4, 5, 6, 7, 8, 9, 10, 11, 12, 13, 14, 15] (by decide) rfl
  have hFc : ∀ q : Nat, va_A (cRt a b cI T ++ cSt b cI M) s.heap.size q → (va_A (cRt a b cI T ++ cSt b cI M) s.heap.size) q := va_free hD hS hA [0, 1, 2, 3, 4, 5, 6, 7, 8, 9, 10, 11, 12, 13, 14, 15] rfl
  refine va_callv (va_runV (As := [.int p2]) (rest := []) ⟨hx, hb, hml, hown, hts⟩ (c_X3_measure l dC dI cI cC cS a b T M s.heap.size p2 hW) (cwV 1 hts gX3_shortest_X3_measure rfl rfl rfl (by decide +kernel) ⟨Nat.le_of_ble_eq_true rfl, Nat.le_of_ble_eq_true rfl⟩) (pV (q0 := 0) hK hPc hDc hN rfl rfl) rfl rfl hl.1 rfl (lv_room (Nat.le_of_ble_eq_true rfl)) dX3_shortest_2 ⟨Nat.le_of_ble_eq_true rfl, Nat.le_of_ble_eq_true rfl⟩) hS (fun q _ h => hFc q h) hFc (fun u_1 t_1 H2 locs ht hvm hw hB hz1 hk1 hS => ?_)
  obtain ⟨hP1, hD1⟩ := hB
  rw [ht] at hP1
  subst hw
  obtain ⟨hP, hD⟩ := va_join (wc := cRt a b cI T ++ cSt b cI M) (wr := []) (w1 := cRt a b cI (f_X3_measure T M p2) ++ cSt b cI M) hP hD [0, 1, 2, 3, 4, 5, 6, 7, 8, 9, 10, 11, 12, 13, 14, 15] [] rfl rfl (by decide) (by decide) hk1 hFc hP1 hD1
  have hP : va_P (dC, dI) vwCl (cRt a b cI (f_X3_measure T M p2) ++ cSt b cI M) H2 := hP.sub [0, 1, 2, 3, 4, 5, 6, 7, 8, 9, 10, 11, 12, 13, 14, 15] rfl
  have hD : va_D (va_A (cRt a b cI T ++ cSt b cI M) s.heap.size) (cRt a b cI (f_X3_measure T M p2) ++ cSt b cI M) := hD.sub [0, 1, 2, 3, 4, 5, 6, 7, 8, 9, 10, 11, 12, 13, 14, 15] (by decide) rfl
  obtain ⟨Tn3, eTn3⟩ : ∃ z : SR, z = (f_X3_measure T M p2) := ⟨_, rfl⟩
  rw [sLet_eq, ← eTn3] at hR
  rw [← eTn3] at hP hD
  refine lv_aload_n hx hb dX3_shortest_5 rfl (lv_at hl 0 rfl) ?_
  refine va_get (D := (dC, dI)) (ci := 3) (v := .ref (a 2)) (C := RX3) (T := TX3) (N := 4) hx hb hts hin3 hown hK hP 0 rfl rfl 2 (by decide) (hts (.fieldLink RX3 15 "FeedDesk$Routes" "distance" "[I") (List.mem_of_getElem? (i := 1) rfl)) (fun _ h9 => h9) rfl dX3_shortest_6 ?_
  refine lv_iload_n hx hb dX3_shortest_9 rfl (lv_at hl 1 rfl) ?_
  refine va_iald (f := Tn3 1) hx hb hK hP 2 0 rfl rfl h1 dX3_shortest_10 ?_
  refine lv_istore (lv' := [(4, .int (Tn3 1 p1.toNatClampNeg)), (0, .ref (a 0)), (1, .int p1), (2, .int p2), (3, .int p3)]) hx hb dX3_shortest_11 hl (by decide) rfl (fun ls hl => ?_)
  refine lv_iload hx hb dX3_shortest_13 (lv_at hl 0 rfl) ?_
  refine lv_if_eq (tgt := 24) hx hb dX3_shortest_15 (by decide) (fun c4 => ?_) (fun c4 => ?_)
  · rw [if_pos c4] at hR
    refine lv_bipush (v := (-99)) hx hb dX3_shortest_24 (by decide) ?_
    exact W.iret (v := (-99)) hx hb hr (fun t ht hWw => ⟨⟨(-99), Tn3, rfl, hR.symm.trans eR, by rw [ht]; exact hP, hD⟩, hS.F ht⟩) hS.2.2 dX3_shortest_26
  · rw [if_neg c4] at hR
    refine lv_iload_n hx hb dX3_shortest_18 rfl (lv_at hl 4 rfl) ?_
    refine lv_iload hx hb dX3_shortest_19 (lv_at hl 0 rfl) ?_
    refine lv_icmp_lt (tgt := 27) hx hb dX3_shortest_21 (by decide) (fun c5 => ?_) (fun c5 => ?_)
    · rw [if_pos c5] at hR
      refine lv_iload_n hx hb dX3_shortest_27 rfl (lv_at hl 4 rfl) ?_
      refine lv_if_ge (tgt := 34) hx hb dX3_shortest_28 (by decide) (fun c6 => ?_) (fun c6 => ?_)
      · rw [if_pos c6] at hR
        obtain ⟨i3, h3, e3⟩ := nI_of (show ¬ p3 < 0 from Int32.not_lt.mpr c6)
        refine lv_iload_n hx hb dX3_shortest_34 rfl (lv_at hl 2 rfl) ?_
        refine lv_istore (lv' := [(5, .int p1), (4, .int (Tn3 1 p1.toNatClampNeg)), (0, .ref (a 0)), (1, .int p1), (2, .int p2), (3, .int p3)]) hx hb dX3_shortest_35 hl (by decide) rfl (fun ls hl => ?_)
        refine lv_iload hx hb dX3_shortest_37 (lv_at hl 1 rfl) ?_
        refine lv_iconst (v := 1) hx hb dX3_shortest_39 (by decide) ?_
        refine lv_isub hx hb dX3_shortest_40 ?_
        refine lv_istore (lv' := [(6, .int ((Tn3 1 p1.toNatClampNeg) - 1)), (5, .int p1), (4, .int (Tn3 1 p1.toNatClampNeg)), (0, .ref (a 0)), (1, .int p1), (2, .int p2), (3, .int p3)]) hx hb dX3_shortest_41 hl (by decide) rfl (fun ls hl => ?_)
        have hL_43 : ∀ n_43 : Nat, ∀ (t_43 : Nat), ∀ (x4_43 : Int32) (x5_43 : Int32) (x6_43 : Int32) (T_43 : SR), x6_43 = x4_43 - 1 - nI t_43 → t_43 ≤ i3 → p3 < x4_43 → i3 < t_43 + n_43 → vp_in x5_43 12 → R0 = f_X3_shortest_p43 M p1 p2 p3 n_43 x4_43 x5_43 x6_43 T_43 → ∀ (H : Heap) (locs : List Loc) (ls : Array Slot), va_P (dC, dI) vwCl (cRt a b cI T_43 ++ cSt b cI M) H → va_D (va_A (cRt a b cI T ++ cSt b cI M) s.heap.size) (cRt a b cI T_43 ++ cSt b cI M) → va_S (va_A (cRt a b cI T ++ cSt b cI M) s.heap.size) s.heap H locs → lv_has ls 8 [(0, .ref (a 0)), (1, .int p1), (2, .int p2), (3, .int p3), (4, .int x4_43), (5, .int x5_43), (6, .int x6_43)] → W p l e (headSpec wsX3_shortest rm_X3_shortest).room s m ([.ref (a 0), .int p1, .int p2, .int p3] : List Value).toArray below meth c H locs 0 0 (MQ below (va_Qi (fun (r : Int32) (u : SR) => (r, u) = f_X3_shortest T M p1 p2 p3) (fun u U => va_P (dC, dI) vwCl (cRt a b cI u ++ cSt b cI M) U.heap ∧ va_D (va_A (cRt a b cI T ++ cSt b cI M) s.heap.size) (cRt a b cI u ++ cSt b cI M)) (va_A (cRt a b cI T ++ cSt b cI M) s.heap.size)) ([.ref (a 0), .int p1, .int p2, .int p3] : List Value).toArray s 0 0 (va_A (cRt a b cI T ++ cSt b cI M) s.heap.size)) (F0 m 43 ls []) := by
          intro n_43
          induction n_43 with
          | zero =>
            intro t_43 x4_43 x5_43 x6_43 T_43 e6_43 ht_43 hlt_43 hn_43 hx5_43
            exact absurd hn_43 (by omega)
          | succ n_43 ih_43 =>
            intro t_43 x4_43 x5_43 x6_43 T_43 e6_43 ht_43 hlt_43 hn_43 hx5_43 hR H locs ls hP hD hS hl
            rw [f_X3_shortest_p43] at hR
            refine lv_iload hx hb dX3_shortest_43 (lv_at hl 6 rfl) ?_
            refine lv_iload hx hb dX3_shortest_45 (lv_at hl 4 rfl) ?_
            refine lv_iload_n hx hb dX3_shortest_47 rfl (lv_at hl 3 rfl) ?_
            refine lv_isub hx hb dX3_shortest_48 ?_
            refine lv_icmp_lt (tgt := 80) hx hb dX3_shortest_49 (by decide) (fun c7 => ?_) (fun c7 => ?_)
            · rw [if_pos c7] at hR
              refine lv_iload hx hb dX3_shortest_80 (lv_at hl 5 rfl) ?_
              exact W.iret (v := x5_43) hx hb hr (fun t ht hWw => ⟨⟨x5_43, T_43, rfl, hR.symm.trans eR, by rw [ht]; exact hP, hD⟩, hS.F ht⟩) hS.2.2 dX3_shortest_82
            · rw [if_neg c7] at hR
              have ht2 : t_43 + 1 ≤ i3 := sh_step e6_43 e3 h3 hlt_43 ht_43 c7
              refine lv_aload_n hx hb dX3_shortest_52 rfl (lv_at hl 0 rfl) ?_
              refine lv_iload hx hb dX3_shortest_53 (lv_at hl 5 rfl) ?_
              refine lv_iload hx hb dX3_shortest_55 (lv_at hl 6 rfl) ?_
              have hPc : va_P (dC, dI) vwCl (cRt a b cI T_43 ++ cSt b cI M) H := hP.sub [0, 1, 2, 3, 4, 5, 6, 7, 8, 9, 10, 11, 12, 13, 14, 15] rfl
              have hDc : va_D (va_A (cRt a b cI T ++ cSt b cI M) s.heap.size) (cRt a b cI T_43 ++ cSt b cI M) := hD.sub [0, 1, 2, 3, 4, 5, 6, 7, 8, 9, 10, 11, 12, 13, 14, 15] (by decide) rfl
              have hFc : ∀ q : Nat, va_A [] H.size q → (va_A (cRt a b cI T ++ cSt b cI M) s.heap.size) q := roF hS hA
              refine va_calli (va_runV (As := [.int x5_43, .int x6_43]) (rest := []) ⟨hx, hb, hml, hown, hts⟩ (c_X3_nextAt l dC dI cI cC cS a b T_43 M H.size x5_43 x6_43 hx5_43 hW) (cwV 2 hts gX3_shortest_X3_nextAt rfl rfl rfl (by decide +kernel) ⟨Nat.le_of_ble_eq_true rfl, Nat.le_of_ble_eq_true rfl⟩) (pV (q0 := 0) hK hPc hDc hN rfl rfl) rfl rfl hl.1 rfl (lv_room (Nat.le_of_ble_eq_true rfl)) dX3_shortest_57 ⟨Nat.le_of_ble_eq_true rfl, Nat.le_of_ble_eq_true rfl⟩) hS (fun q _ h => hFc q h) hFc (fun r_8 u_8 t_8 H9 locs ht hvm hw hB hz1 hk1 hS => ?_)
              obtain ⟨hw, hre10⟩ := hw
              subst hw
              have hP := ro_keep hP hk1
              refine lv_istore (lv' := [(7, .int (f_X3_nextAt T_43 M x5_43 x6_43)), (0, .ref (a 0)), (1, .int p1), (2, .int p2), (3, .int p3), (4, .int x4_43), (5, .int x5_43), (6, .int x6_43)]) hx hb dX3_shortest_60 hl (by decide) rfl (fun ls hl => ?_)
              refine lv_iload hx hb dX3_shortest_62 (lv_at hl 0 rfl) ?_
              refine lv_if_ge (tgt := 70) hx hb dX3_shortest_64 (by decide) (fun c11 => ?_) (fun c11 => ?_)
              · rw [if_pos c11] at hR
                refine lv_iload hx hb dX3_shortest_70 (lv_at hl 0 rfl) ?_
                refine lv_istore (lv' := [(5, .int (f_X3_nextAt T_43 M x5_43 x6_43)), (7, .int (f_X3_nextAt T_43 M x5_43 x6_43)), (0, .ref (a 0)), (1, .int p1), (2, .int p2), (3, .int p3), (4, .int x4_43), (6, .int x6_43)]) hx hb dX3_shortest_72 hl (by decide) rfl (fun ls hl => ?_)
                refine lv_iinc (v := x6_43 + (-1)) (lv' := [(6, .int (x6_43 + (-1))), (5, .int (f_X3_nextAt T_43 M x5_43 x6_43)), (7, .int (f_X3_nextAt T_43 M x5_43 x6_43)), (0, .ref (a 0)), (1, .int p1), (2, .int p2), (3, .int p3), (4, .int x4_43)]) hx hb dX3_shortest_74 hl (k := 7) rfl rfl (by decide) rfl (fun ls hl => ?_)
                refine lv_goto (tgt := 43) hx hb dX3_shortest_77 (by decide) ?_
                exact ih_43 (t_43 + 1) x4_43 (f_X3_nextAt T_43 M x5_43 x6_43) (x6_43 + (-1)) T_43 (by rw [e6_43, sub_nI_1]) ht2 hlt_43 (by omega) (or_nn hre10 c11) hR _ _ _ hP hD hS (lv_sub hl [3, 4, 5, 6, 7, 1, 0] rfl)
              · rw [if_neg c11] at hR
                refine lv_bipush (v := (-99)) hx hb dX3_shortest_67 (by decide) ?_
                exact W.iret (v := (-99)) hx hb hr (fun t ht hWw => ⟨⟨(-99), T_43, rfl, hR.symm.trans eR, by rw [ht]; exact hP, hD⟩, hS.F ht⟩) hS.2.2 dX3_shortest_69
        exact hL_43 (p3.toNatClampNeg + 1) 0 (Tn3 1 p1.toNatClampNeg) p1 ((Tn3 1 p1.toNatClampNeg) - 1) Tn3 (by rw [nI_0, Int32.sub_zero]) (Nat.zero_le _) c5 (by rw [e3, nI_clamp h3]; omega) h1 hR _ _ _ hP hD hS (lv_sub hl [3, 4, 5, 6, 2, 1, 0] rfl)
      · rw [if_neg c6] at hR
        refine lv_iload hx hb dX3_shortest_31 (lv_at hl 0 rfl) ?_
        exact W.iret (v := Tn3 1 p1.toNatClampNeg) hx hb hr (fun t ht hWw => ⟨⟨Tn3 1 p1.toNatClampNeg, Tn3, rfl, hR.symm.trans eR, by rw [ht]; exact hP, hD⟩, hS.F ht⟩) hS.2.2 dX3_shortest_33
    · rw [if_neg c5] at hR
      refine lv_bipush (v := (-99)) hx hb dX3_shortest_24 (by decide) ?_
      exact W.iret (v := (-99)) hx hb hr (fun t ht hWw => ⟨⟨(-99), Tn3, rfl, hR.symm.trans eR, by rw [ht]; exact hP, hD⟩, hS.F ht⟩) hS.2.2 dX3_shortest_26
