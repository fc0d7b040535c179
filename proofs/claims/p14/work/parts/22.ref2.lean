abbrev rm_X6_mute : Room := { frames := 1, cells := 0, slots := 0, locals := 22 }
def f_X6_mute_p2 (p1 : Int32)  : Nat → Int32 → SR → SR
  | 0, _, R_2 => R_2
  | n_2 + 1, x2_2, R_2 => (if 12 ≤ x2_2 then R_2 else (if (f_X6_has (R_2 0 179) x2_2) = 0 then sLet (sU R_2 0 ((5 * x2_2) + 2).toNatClampNeg ((p1 >>> (x2_2 &&& 31)) &&& 1)) (fun Rn7 : SR => (f_X6_mute_p2 p1 n_2) (x2_2 + 1) Rn7) else sLet (sU R_2 0 ((5 * x2_2) + 2).toNatClampNeg (f_X6_of R_2 x2_2 2)) (fun Rn15 : SR => (f_X6_mute_p2 p1 n_2) (x2_2 + 1) Rn15)))
def f_X6_mute (R : SR) (p1 : Int32) : SR := f_X6_mute_p2 p1 13 0 R
theorem ix_18 : ∀ q0 : Nat, q0 < 12 → vp_okB ((5 * (nI q0)) + 2) 289 = true := by decide +kernel
theorem ok_19 : ∀ q0 : Nat, q0 < 12 → okR ((5 * (nI q0)) + 2).toNatClampNeg = true := by decide +kernel
theorem ok_20 : ∀ q0 : Nat, q0 < 12 → ok4 ((5 * (nI q0)) + 2).toNatClampNeg = true := by decide +kernel
theorem ok_21 : ∀ q0 : Nat, q0 < 12 → ok5 ((5 * (nI q0)) + 2).toNatClampNeg = true := by decide +kernel
set_option maxHeartbeats 4000000 in
set_option maxRecDepth 100000 in
theorem c_X6_mute (l : Launch) (dC : Nat → ClassId) (dI : Nat → Nat → Nat) (cI cC cS : ClassId) (a : Nat → Nat) (R : SR) (sz : Nat) (p1 : Int32) (hI : RA R) : Met l yX6_mute wsX6_mute rm_X6_mute (PcG (dC, dI) (tyL cI cC cS) (cMd a cI R) sz [.ref (a 0), .int p1]) (va_Qv (fun (u : SR) => u = f_X6_mute R p1 ∧ (RA u) ∧ (u 0 144 = R 0 144) ∧ (u 0 145 = R 0 145) ∧ (FX R u)) (fun u U => va_P (dC, dI) vwCl (cMd a cI u) U.heap ∧ va_D (va_A (cMd a cI R) sz) (cMd a cI u)) (va_A (cMd a cI R) sz)) 0 0 (va_A (cMd a cI R) sz) := by
  refine Met.ofW (cc := cX6_mute) (maxL := 3) (ret := none) (by decide) rfl ?_
  intro p e s m args below meth c s₁ B hml hv
  obtain ⟨rfl, hsz, hP, hK, hD0, hN⟩ := hv
  have hx := B.exec
  have hb := B.bytes
  have hr := B.returns
  have hts := atoms_spec (ws := wsX6_mute) B.pre
  have hown : s.vm.findClass RX6 = some m.cls := findClass_of_methodNamed B.named
  have hlocks := B.notSynchronized
  subst hsz
  have hD := hD0.self (sz := s.heap.size)
  have hA : ∀ q : Nat, s.heap.size ≤ q → (va_A (cMd a cI R) s.heap.size) q := fun q h => Or.inr h
  have hS : va_S (va_A (cMd a cI R) s.heap.size) s.heap s.heap [] := va_S.rf
  have hin6 : ∀ w ∈ wsX60, w ∈ wsX6_mute := fun _ h => List.mem_cons_of_mem _ (List.mem_append_right _ h)
  have h4_0 : R 0 144 = R 0 144 := rfl
  have h5_0 : R 0 145 = R 0 145 := rfl
  have hx_0 : FX R R := fx_rf
  have hl := lv_entry [.ref (a 0), .int p1] (n := 3) (Nat.le_of_ble_eq_true rfl)
  rw [lg_entry_eq]
  generalize (lg_sl [.ref (a 0), .int p1] ++ List.replicate (3 - (lg_sl [.ref (a 0), .int p1]).length) Slot.unset).toArray = ls at hl ⊢
  have hl : lv_has ls 3 [(0, .ref (a 0)), (1, .int p1)] := hl
  obtain ⟨R0, eR⟩ : ∃ z, z = f_X6_mute R p1 := ⟨_, rfl⟩
  have hR := eR
  rw [f_X6_mute] at hR
  refine lv_iconst (v := 0) hx hb dX6_mute_0 (by decide) ?_
  refine lv_istore_n (lv' := [(2, .int 0), (0, .ref (a 0)), (1, .int p1)]) hx hb dX6_mute_1 rfl hl (by decide) rfl (fun ls hl => ?_)
  have hL_2 : ∀ n_2 : Nat, ∀ (j_2 : Nat), ∀ (x2_2 : Int32) (R_2 : SR), x2_2 = nI j_2 → j_2 ≤ 12 → 12 < j_2 + n_2 → RA R_2 → R_2 0 144 = R 0 144 → R_2 0 145 = R 0 145 → FX R R_2 → R0 = f_X6_mute_p2 p1 n_2 x2_2 R_2 → ∀ (H : Heap) (locs : List Loc) (ls : Array Slot), va_P (dC, dI) vwCl (cMd a cI R_2) H → va_D (va_A (cMd a cI R) s.heap.size) (cMd a cI R_2) → va_S (va_A (cMd a cI R) s.heap.size) s.heap H locs → lv_has ls 3 [(0, .ref (a 0)), (1, .int p1), (2, .int x2_2)] → W p l e (headSpec wsX6_mute rm_X6_mute).room s m ([.ref (a 0), .int p1] : List Value).toArray below meth c H locs 0 0 (MQ below (va_Qv (fun (u : SR) => u = f_X6_mute R p1 ∧ (RA u) ∧ (u 0 144 = R 0 144) ∧ (u 0 145 = R 0 145) ∧ (FX R u)) (fun u U => va_P (dC, dI) vwCl (cMd a cI u) U.heap ∧ va_D (va_A (cMd a cI R) s.heap.size) (cMd a cI u)) (va_A (cMd a cI R) s.heap.size)) ([.ref (a 0), .int p1] : List Value).toArray s 0 0 (va_A (cMd a cI R) s.heap.size)) (F0 m 2 ls []) := by
    intro n_2
    induction n_2 with
    | zero =>
      intro j_2 x2_2 R_2 ex2_2 hj0_2 hn_2 hI_2 h4_2 h5_2 hx_2
      exact absurd hn_2 (by omega)
    | succ n_2 ih_2 =>
      intro j_2 x2_2 R_2 ex2_2 hj0_2 hn_2 hI_2 h4_2 h5_2 hx_2 hR H locs ls hP hD hS hl
      rw [f_X6_mute_p2] at hR
      refine lv_iload_n hx hb dX6_mute_2 rfl (lv_at hl 2 rfl) ?_
      refine lv_bipush (v := 12) hx hb dX6_mute_3 (by decide) ?_
      refine lv_icmp_ge (tgt := 53) hx hb dX6_mute_5 (by decide) (fun c1 => ?_) (fun c1 => ?_)
      · rw [if_pos c1] at hR
        exact W.vret hx hb hr (fun t ht hWw => ⟨⟨R_2, rfl, ⟨hR.symm.trans eR, hI_2, h4_2, h5_2, hx_2⟩, by rw [ht]; exact hP, hD⟩, hS.F ht⟩) hS.2.2 dX6_mute_53
      · rw [if_neg c1] at hR
        have hj_2 : j_2 < 12 := lp_ge ex2_2 (by decide +kernel) (by omega) (by omega) c1
        refine lv_aload_n hx hb dX6_mute_8 rfl (lv_at hl 0 rfl) ?_
        refine va_get (D := (dC, dI)) (ci := 6) (v := .ref (a 1)) (C := RX6) (T := TX6) (N := 15) hx hb hts hin6 hown hK hP 0 rfl rfl 1 (by decide) (hts (.fieldLink RX6 7 "FeedDeskModel" "s" "[I") (List.mem_of_getElem? (i := 1) rfl)) (fun _ h9 => h9) rfl dX6_mute_9 ?_
        refine lv_iconst (v := 5) hx hb dX6_mute_12 (by decide) ?_
        refine lv_iload_n hx hb dX6_mute_13 rfl (lv_at hl 2 rfl) ?_
        refine lv_imul hx hb dX6_mute_14 ?_
        refine lv_iconst (v := 2) hx hb dX6_mute_15 (by decide) ?_
        refine lv_iadd hx hb dX6_mute_16 ?_
        refine lv_aload_n hx hb dX6_mute_17 rfl (lv_at hl 0 rfl) ?_
        refine va_get (D := (dC, dI)) (ci := 6) (v := .ref (a 1)) (C := RX6) (T := TX6) (N := 15) hx hb hts hin6 hown hK hP 0 rfl rfl 1 (by decide) (hts (.fieldLink RX6 7 "FeedDeskModel" "s" "[I") (List.mem_of_getElem? (i := 1) rfl)) (fun _ h9 => h9) rfl dX6_mute_18 ?_
        refine lv_sipush (v := 179) hx hb dX6_mute_21 (by decide) ?_
        refine va_iald (f := R_2 0) hx hb hK hP 1 0 rfl rfl (vp_of_B (by decide +kernel : vp_okB (179) 289 = true)) dX6_mute_24 ?_
        refine lv_eqi (y := R_2 0 179) rfl ?_
        refine lv_iload_n hx hb dX6_mute_25 rfl (lv_at hl 2 rfl) ?_
        have hFc : ∀ q : Nat, va_A [] H.size q → (va_A (cMd a cI R) s.heap.size) q := roF hS hA
        refine va_calli (va_runS (As := [.int (R_2 0 179), .int x2_2]) (rest := [.int ((5 * x2_2) + 2), .ref (a 1)]) ⟨hx, hb, hml, hown, hts⟩ (c_X6_has l dC dI cI cC cS H.size (R_2 0 179) x2_2) (va_cwS 2 hts gX6_mute_X6_has rfl rfl rfl (by decide +kernel) ⟨Nat.le_of_ble_eq_true rfl, Nat.le_of_ble_eq_true rfl⟩) (pS hK (va_P_nil) (va_D_nil) hN) rfl rfl hl.1 rfl (lv_room (Nat.le_of_ble_eq_true rfl)) dX6_mute_26 ⟨Nat.le_of_ble_eq_true rfl, Nat.le_of_ble_eq_true rfl⟩) hS (fun q _ h => hFc q h) hFc (fun r_2 u_2 t_2 H3 locs ht hvm hw hB hz1 hk1 hS => ?_)
        obtain ⟨hw, hre4⟩ := hw
        subst hw
        have hP := ro_keep hP hk1
        refine lv_if_eq (tgt := 41) hx hb dX6_mute_29 (by decide) (fun c5 => ?_) (fun c5 => ?_)
        · rw [if_pos c5] at hR
          refine lv_iload_n hx hb dX6_mute_41 rfl (lv_at hl 1 rfl) ?_
          refine lv_iload_n hx hb dX6_mute_42 rfl (lv_at hl 2 rfl) ?_
          refine lv_ishr hx hb dX6_mute_43 ?_
          refine lv_iconst (v := 1) hx hb dX6_mute_44 (by decide) ?_
          refine lv_iand hx hb dX6_mute_45 ?_
          refine va_iast (f := R_2 0) hx hb hK hP hD hS 1 0 rfl rfl (by rw [ex2_2]; exact vp_of_B (ix_18 j_2 hj_2)) dX6_mute_46 (fun H6 locs hP hD hS => ?_)
          have hP : va_P (dC, dI) vwCl (cMd a cI (sU R_2 0 ((5 * x2_2) + 2).toNatClampNeg ((p1 >>> (x2_2 &&& 31)) &&& 1))) H6 := hP
          have hD : va_D (va_A (cMd a cI R) s.heap.size) (cMd a cI (sU R_2 0 ((5 * x2_2) + 2).toNatClampNeg ((p1 >>> (x2_2 &&& 31)) &&& 1))) := hD
          obtain ⟨Rn7, eRn7⟩ : ∃ z : SR, z = sU R_2 0 ((5 * x2_2) + 2).toNatClampNeg ((p1 >>> (x2_2 &&& 31)) &&& 1) := ⟨_, rfl⟩
          rw [sLet_eq, ← eRn7] at hR
          rw [← eRn7] at hP hD
          have hI8 : RA Rn7 := (by rw [eRn7]; exact ra_s hI_2 (by rw [ex2_2]; exact ok_19 j_2 hj_2))
          have h49 : Rn7 0 144 = R 0 144 := (by rw [eRn7]; exact e4_s h4_2 (by rw [ex2_2]; exact ok_20 j_2 hj_2))
          have h510 : Rn7 0 145 = R 0 145 := (by rw [eRn7]; exact e5_s h5_2 (by rw [ex2_2]; exact ok_21 j_2 hj_2))
          have hx11 : FX R Rn7 := (by rw [eRn7]; exact hx_2)
          refine lv_iinc (v := x2_2 + 1) (lv' := [(2, .int (x2_2 + 1)), (0, .ref (a 0)), (1, .int p1)]) hx hb dX6_mute_47 hl (k := 2) rfl rfl (by decide) rfl (fun ls hl => ?_)
          refine lv_goto (tgt := 2) hx hb dX6_mute_50 (by decide) ?_
          exact ih_2 (j_2 + 1) (x2_2 + 1) Rn7 (by rw [ex2_2, nI_1]) (by omega) (by omega) hI8 h49 h510 hx11 hR _ _ _ hP hD hS (lv_sub hl [1, 2, 0] rfl)
        · rw [if_neg c5] at hR
          refine lv_aload_n hx hb dX6_mute_32 rfl (lv_at hl 0 rfl) ?_
          refine lv_iload_n hx hb dX6_mute_33 rfl (lv_at hl 2 rfl) ?_
          refine lv_iconst (v := 2) hx hb dX6_mute_34 (by decide) ?_
          have hPc : va_P (dC, dI) vwCl (cMd a cI R_2) H3 := hP.sub [0, 1, 2, 3, 4, 5, 6] rfl
          have hDc : va_D (va_A (cMd a cI R) s.heap.size) (cMd a cI R_2) := hD.sub [0, 1, 2, 3, 4, 5, 6] (by decide) rfl
          have hFc : ∀ q : Nat, va_A [] H3.size q → (va_A (cMd a cI R) s.heap.size) q := roF hS hA
          refine va_calli (va_runV (As := [.int x2_2, .int 2]) (rest := [.int ((5 * x2_2) + 2), .ref (a 1)]) ⟨hx, hb, hml, hown, hts⟩ (c_X6_of l dC dI cI cC cS a R_2 H3.size x2_2 2 (by rw [ex2_2]; exact vp_of_B (ix_1 j_2 hj_2)) (vp_of_B (by decide +kernel : vp_okB (2) 5 = true))) (cwV 2 hts gX6_mute_X6_of rfl rfl rfl (by decide +kernel) ⟨Nat.le_of_ble_eq_true rfl, Nat.le_of_ble_eq_true rfl⟩) (pV (q0 := 0) hK hPc hDc hN rfl rfl) rfl rfl hl.1 rfl (lv_room (Nat.le_of_ble_eq_true rfl)) dX6_mute_35 ⟨Nat.le_of_ble_eq_true rfl, Nat.le_of_ble_eq_true rfl⟩) hS (fun q _ h => hFc q h) hFc (fun r_12 u_12 t_12 H13 locs ht hvm hw hB hz1 hk1 hS => ?_)
          subst hw
          have hP := ro_keep hP hk1
          refine lv_goto (tgt := 46) hx hb dX6_mute_38 (by decide) ?_
          refine va_iast (f := R_2 0) hx hb hK hP hD hS 1 0 rfl rfl (by rw [ex2_2]; exact vp_of_B (ix_18 j_2 hj_2)) dX6_mute_46 (fun H14 locs hP hD hS => ?_)
          have hP : va_P (dC, dI) vwCl (cMd a cI (sU R_2 0 ((5 * x2_2) + 2).toNatClampNeg (f_X6_of R_2 x2_2 2))) H14 := hP
          have hD : va_D (va_A (cMd a cI R) s.heap.size) (cMd a cI (sU R_2 0 ((5 * x2_2) + 2).toNatClampNeg (f_X6_of R_2 x2_2 2))) := hD
          obtain ⟨Rn15, eRn15⟩ : ∃ z : SR, z = sU R_2 0 ((5 * x2_2) + 2).toNatClampNeg (f_X6_of R_2 x2_2 2) := ⟨_, rfl⟩
          rw [sLet_eq, ← eRn15] at hR
          rw [← eRn15] at hP hD
          have hI16 : RA Rn15 := (by rw [eRn15]; exact ra_s hI_2 (by rw [ex2_2]; exact ok_19 j_2 hj_2))
          have h417 : Rn15 0 144 = R 0 144 := (by rw [eRn15]; exact e4_s h4_2 (by rw [ex2_2]; exact ok_20 j_2 hj_2))
          have h518 : Rn15 0 145 = R 0 145 := (by rw [eRn15]; exact e5_s h5_2 (by rw [ex2_2]; exact ok_21 j_2 hj_2))
          have hx19 : FX R Rn15 := (by rw [eRn15]; exact hx_2)
          refine lv_iinc (v := x2_2 + 1) (lv' := [(2, .int (x2_2 + 1)), (0, .ref (a 0)), (1, .int p1)]) hx hb dX6_mute_47 hl (k := 2) rfl rfl (by decide) rfl (fun ls hl => ?_)
          refine lv_goto (tgt := 2) hx hb dX6_mute_50 (by decide) ?_
          exact ih_2 (j_2 + 1) (x2_2 + 1) Rn15 (by rw [ex2_2, nI_1]) (by omega) (by omega) hI16 h417 h518 hx19 hR _ _ _ hP hD hS (lv_sub hl [1, 2, 0] rfl)
  exact hL_2 13 0 0 R (by decide +kernel) (by decide) (by decide) hI h4_0 h5_0 hx_0 hR _ _ _ hP hD hS (lv_sub hl [1, 2, 0] rfl)
abbrev rm_X6_fade : Room := { frames := 2, cells := 0, slots := 0, locals := 44 }
def f_X6_fade_p125   (x1_125 : Int32) (x2_125 : Int32)  (R_125 : SR) : SR := (if x1_125 = x2_125 then sLet (sU R_125 0 144 (-1)) (fun Rn14 : SR => Rn14) else sLet (sU R_125 0 144 x1_125) (fun Rn9 : SR => Rn9))
def f_X6_fade_p113   (x1_113 : Int32) (x2_113 : Int32)  (R_113 : SR) : SR := sLet ((f_X6_mute R_113 (R_113 0 178))) (fun Rn24 : SR => f_X6_fade_p125 x1_113 x2_113 Rn24)
def f_X6_fade_p32   : Nat → Int32 → Int32 → Int32 → SR → SR
  | 0, _, _, _, R_32 => R_32
  | n_32 + 1, x1_32, x2_32, x3_32, R_32 => (if 16 ≤ x3_32 then (if (2 * x1_32) = x2_32 then f_X6_fade_p113 x1_32 x2_32 R_32 else (if (2 * x1_32) = (x2_32 + 1) then f_X6_fade_p113 x1_32 x2_32 R_32 else f_X6_fade_p125 x1_32 x2_32 R_32)) else (if (f_X6_isTouched R_32 x3_32) = 0 then sLet (sU R_32 0 (f_X6_at x3_32).toNatClampNeg ((R_32 0 (146 + x3_32).toNatClampNeg) + ((((R_32 0 (162 + x3_32).toNatClampNeg) - (R_32 0 (146 + x3_32).toNatClampNeg)) * x1_32) / x2_32))) (fun Rn38 : SR => (f_X6_fade_p32 n_32) x1_32 x2_32 (x3_32 + 1) Rn38) else (f_X6_fade_p32 n_32) x1_32 x2_32 (x3_32 + 1) R_32))
def f_X6_fade (R : SR)  : SR := sLet (sU R 0 144 ((R 0 144) + 1)) (fun Rn2 : SR => f_X6_fade_p32 17 (Rn2 0 144) (Rn2 0 145) 0 Rn2)
theorem ix_22 : ∀ q0 : Nat, q0 < 16 → vp_okB (146 + (nI q0)) 289 = true := by decide +kernel
theorem ix_23 : ∀ q0 : Nat, q0 < 16 → vp_okB (162 + (nI q0)) 289 = true := by decide +kernel
theorem ix_24 : ∀ q0 : Nat, q0 < 16 → vp_okB (f_X6_at (nI q0)) 289 = true := by decide +kernel
theorem ok_25 : ∀ q0 : Nat, q0 < 16 → okR (f_X6_at (nI q0)).toNatClampNeg = true := by decide +kernel
theorem ok_26 : ∀ q0 : Nat, q0 < 16 → ok5 (f_X6_at (nI q0)).toNatClampNeg = true := by decide +kernel
set_option maxHeartbeats 4000000 in
set_option maxRecDepth 100000 in
theorem c_X6_fade (l : Launch) (dC : Nat → ClassId) (dI : Nat → Nat → Nat) (cI cC cS : ClassId) (a : Nat → Nat) (R : SR) (sz : Nat)  (hI : RA R) (hn : ¬ R 0 145 = 0) : Met l yX6_fade wsX6_fade rm_X6_fade (PcG (dC, dI) (tyL cI cC cS) (cMd a cI R) sz [.ref (a 0)]) (va_Qv (fun (u : SR) => u = f_X6_fade R ∧ (RA u) ∧ (¬ u 0 145 = 0) ∧ (FX R u)) (fun u U => va_P (dC, dI) vwCl (cMd a cI u) U.heap ∧ va_D (va_A (cMd a cI R) sz) (cMd a cI u)) (va_A (cMd a cI R) sz)) 0 0 (va_A (cMd a cI R) sz) := by
  refine Met.ofW (cc := cX6_fade) (maxL := 4) (ret := none) (by decide) rfl ?_
  intro p e s m args below meth c s₁ B hml hv
  obtain ⟨rfl, hsz, hP, hK, hD0, hN⟩ := hv
  have hx := B.exec
  have hb := B.bytes
  have hr := B.returns
  have hts := atoms_spec (ws := wsX6_fade) B.pre
  have hown : s.vm.findClass RX6 = some m.cls := findClass_of_methodNamed B.named
  have hlocks := B.notSynchronized
  subst hsz
  have hD := hD0.self (sz := s.heap.size)
  have hA : ∀ q : Nat, s.heap.size ≤ q → (va_A (cMd a cI R) s.heap.size) q := fun q h => Or.inr h
  have hS : va_S (va_A (cMd a cI R) s.heap.size) s.heap s.heap [] := va_S.rf
  have hin6 : ∀ w ∈ wsX60, w ∈ wsX6_fade := fun _ h => List.mem_cons_of_mem _ (List.mem_append_right _ h)
  have hx_0 : FX R R := fx_rf
  have hl := lv_entry [.ref (a 0)] (n := 4) (Nat.le_of_ble_eq_true rfl)
  rw [lg_entry_eq]
  generalize (lg_sl [.ref (a 0)] ++ List.replicate (4 - (lg_sl [.ref (a 0)]).length) Slot.unset).toArray = ls at hl ⊢
  have hl : lv_has ls 4 [(0, .ref (a 0))] := hl
  obtain ⟨R0, eR⟩ : ∃ z, z = f_X6_fade R := ⟨_, rfl⟩
  have hR := eR
  rw [f_X6_fade] at hR
  refine lv_aload_n hx hb dX6_fade_0 rfl (lv_at hl 0 rfl) ?_
  refine va_get (D := (dC, dI)) (ci := 6) (v := .ref (a 1)) (C := RX6) (T := TX6) (N := 15) hx hb hts hin6 hown hK hP 0 rfl rfl 1 (by decide) (hts (.fieldLink RX6 7 "FeedDeskModel" "s" "[I") (List.mem_of_getElem? (i := 1) rfl)) (fun _ h9 => h9) rfl dX6_fade_1 ?_
  refine lv_sipush (v := 144) hx hb dX6_fade_4 (by decide) ?_
  refine lv_dup2_11 hx hb dX6_fade_7 rfl rfl ?_
  refine va_iald (f := R 0) hx hb hK hP 1 0 rfl rfl (vp_of_B (by decide +kernel : vp_okB (144) 289 = true)) dX6_fade_8 ?_
  refine lv_eqi (y := R 0 144) rfl ?_
  refine lv_iconst (v := 1) hx hb dX6_fade_9 (by decide) ?_
  refine lv_iadd hx hb dX6_fade_10 ?_
  refine va_iast (f := R 0) hx hb hK hP hD hS 1 0 rfl rfl (vp_of_B (by decide +kernel : vp_okB (144) 289 = true)) dX6_fade_11 (fun H1 locs hP hD hS => ?_)
  have hP : va_P (dC, dI) vwCl (cMd a cI (sU R 0 144 ((R 0 144) + 1))) H1 := hP
  have hD : va_D (va_A (cMd a cI R) s.heap.size) (cMd a cI (sU R 0 144 ((R 0 144) + 1))) := hD
  obtain ⟨Rn2, eRn2⟩ : ∃ z : SR, z = sU R 0 144 ((R 0 144) + 1) := ⟨_, rfl⟩
  rw [sLet_eq, ← eRn2] at hR
  rw [← eRn2] at hP hD
  have hI3 : RA Rn2 := (by rw [eRn2]; exact ra_s hI (by decide +kernel))
  have hn4 : ¬ Rn2 0 145 = 0 := (by rw [eRn2]; exact n_s hn (by decide +kernel))
  have hx5 : FX R Rn2 := (by rw [eRn2]; exact hx_0)
  refine lv_aload_n hx hb dX6_fade_12 rfl (lv_at hl 0 rfl) ?_
  refine va_get (D := (dC, dI)) (ci := 6) (v := .ref (a 1)) (C := RX6) (T := TX6) (N := 15) hx hb hts hin6 hown hK hP 0 rfl rfl 1 (by decide) (hts (.fieldLink RX6 7 "FeedDeskModel" "s" "[I") (List.mem_of_getElem? (i := 1) rfl)) (fun _ h9 => h9) rfl dX6_fade_13 ?_
  refine lv_sipush (v := 144) hx hb dX6_fade_16 (by decide) ?_
  refine va_iald (f := Rn2 0) hx hb hK hP 1 0 rfl rfl (vp_of_B (by decide +kernel : vp_okB (144) 289 = true)) dX6_fade_19 ?_
  refine lv_eqi (y := Rn2 0 144) rfl ?_
  refine lv_istore_n (lv' := [(1, .int (Rn2 0 144)), (0, .ref (a 0))]) hx hb dX6_fade_20 rfl hl (by decide) rfl (fun ls hl => ?_)
  refine lv_aload_n hx hb dX6_fade_21 rfl (lv_at hl 1 rfl) ?_
  refine va_get (D := (dC, dI)) (ci := 6) (v := .ref (a 1)) (C := RX6) (T := TX6) (N := 15) hx hb hts hin6 hown hK hP 0 rfl rfl 1 (by decide) (hts (.fieldLink RX6 7 "FeedDeskModel" "s" "[I") (List.mem_of_getElem? (i := 1) rfl)) (fun _ h9 => h9) rfl dX6_fade_22 ?_
  refine lv_sipush (v := 145) hx hb dX6_fade_25 (by decide) ?_
  refine va_iald (f := Rn2 0) hx hb hK hP 1 0 rfl rfl (vp_of_B (by decide +kernel : vp_okB (145) 289 = true)) dX6_fade_28 ?_
  refine lv_eqi (y := Rn2 0 145) rfl ?_
  refine lv_istore_n (lv' := [(2, .int (Rn2 0 145)), (1, .int (Rn2 0 144)), (0, .ref (a 0))]) hx hb dX6_fade_29 rfl hl (by decide) rfl (fun ls hl => ?_)
  refine lv_iconst (v := 0) hx hb dX6_fade_30 (by decide) ?_
  refine lv_istore_n (lv' := [(3, .int 0), (2, .int (Rn2 0 145)), (1, .int (Rn2 0 144)), (0, .ref (a 0))]) hx hb dX6_fade_31 rfl hl (by decide) rfl (fun ls hl => ?_)
  have hL_32 : ∀ n_32 : Nat, ∀ (j_32 : Nat), ∀ (x1_32 : Int32) (x2_32 : Int32) (x3_32 : Int32) (R_32 : SR), x3_32 = nI j_32 → j_32 ≤ 16 → 16 < j_32 + n_32 → RA R_32 → ¬ R_32 0 145 = 0 → FX R R_32 → ¬ x2_32 = 0 → R0 = f_X6_fade_p32 n_32 x1_32 x2_32 x3_32 R_32 → ∀ (H : Heap) (locs : List Loc) (ls : Array Slot), va_P (dC, dI) vwCl (cMd a cI R_32) H → va_D (va_A (cMd a cI R) s.heap.size) (cMd a cI R_32) → va_S (va_A (cMd a cI R) s.heap.size) s.heap H locs → lv_has ls 4 [(0, .ref (a 0)), (1, .int x1_32), (2, .int x2_32), (3, .int x3_32)] → W p l e (headSpec wsX6_fade rm_X6_fade).room s m ([.ref (a 0)] : List Value).toArray below meth c H locs 0 0 (MQ below (va_Qv (fun (u : SR) => u = f_X6_fade R ∧ (RA u) ∧ (¬ u 0 145 = 0) ∧ (FX R u)) (fun u U => va_P (dC, dI) vwCl (cMd a cI u) U.heap ∧ va_D (va_A (cMd a cI R) s.heap.size) (cMd a cI u)) (va_A (cMd a cI R) s.heap.size)) ([.ref (a 0)] : List Value).toArray s 0 0 (va_A (cMd a cI R) s.heap.size)) (F0 m 32 ls []) := by
    intro n_32
    induction n_32 with
    | zero =>
      intro j_32 x1_32 x2_32 x3_32 R_32 ex3_32 hj0_32 hn_32 hI_32 hn_32 hx_32 hz_32
      exact absurd hn_32 (by omega)
    | succ n_32 ih_32 =>
      intro j_32 x1_32 x2_32 x3_32 R_32 ex3_32 hj0_32 hn_32 hI_32 hn_32 hx_32 hz_32 hR H locs ls hP hD hS hl
      rw [f_X6_fade_p32] at hR
      refine lv_iload_n hx hb dX6_fade_32 rfl (lv_at hl 3 rfl) ?_
      refine lv_bipush (v := 16) hx hb dX6_fade_33 (by decide) ?_
      refine lv_icmp_ge (tgt := 97) hx hb dX6_fade_35 (by decide) (fun c6 => ?_) (fun c6 => ?_)
      · rw [if_pos c6] at hR
        refine lv_iconst (v := 2) hx hb dX6_fade_97 (by decide) ?_
        refine lv_iload_n hx hb dX6_fade_98 rfl (lv_at hl 1 rfl) ?_
        refine lv_imul hx hb dX6_fade_99 ?_
        refine lv_iload_n hx hb dX6_fade_100 rfl (lv_at hl 2 rfl) ?_
        have hJ_125 : ∀ (x1_125 : Int32) (x2_125 : Int32)  (R_125 : SR), RA R_125 → ¬ R_125 0 145 = 0 → FX R R_125 → R0 = f_X6_fade_p125 x1_125 x2_125 R_125 → ∀ (H : Heap) (locs : List Loc) (ls : Array Slot), va_P (dC, dI) vwCl (cMd a cI R_125) H → va_D (va_A (cMd a cI R) s.heap.size) (cMd a cI R_125) → va_S (va_A (cMd a cI R) s.heap.size) s.heap H locs → lv_has ls 4 [(0, .ref (a 0)), (1, .int x1_125), (2, .int x2_125)] → W p l e (headSpec wsX6_fade rm_X6_fade).room s m ([.ref (a 0)] : List Value).toArray below meth c H locs 0 0 (MQ below (va_Qv (fun (u : SR) => u = f_X6_fade R ∧ (RA u) ∧ (¬ u 0 145 = 0) ∧ (FX R u)) (fun u U => va_P (dC, dI) vwCl (cMd a cI u) U.heap ∧ va_D (va_A (cMd a cI R) s.heap.size) (cMd a cI u)) (va_A (cMd a cI R) s.heap.size)) ([.ref (a 0)] : List Value).toArray s 0 0 (va_A (cMd a cI R) s.heap.size)) (F0 m 125 ls []) := by
          intro x1_125 x2_125 R_125 hI_125 hn_125 hx_125 hR H locs ls hP hD hS hl
          rw [f_X6_fade_p125] at hR
          refine lv_aload_n hx hb dX6_fade_125 rfl (lv_at hl 0 rfl) ?_
          refine va_get (D := (dC, dI)) (ci := 6) (v := .ref (a 1)) (C := RX6) (T := TX6) (N := 15) hx hb hts hin6 hown hK hP 0 rfl rfl 1 (by decide) (hts (.fieldLink RX6 7 "FeedDeskModel" "s" "[I") (List.mem_of_getElem? (i := 1) rfl)) (fun _ h9 => h9) rfl dX6_fade_126 ?_
          refine lv_sipush (v := 144) hx hb dX6_fade_129 (by decide) ?_
          refine lv_iload_n hx hb dX6_fade_132 rfl (lv_at hl 1 rfl) ?_
          refine lv_iload_n hx hb dX6_fade_133 rfl (lv_at hl 2 rfl) ?_
          refine lv_icmp_ne (tgt := 141) hx hb dX6_fade_134 (by decide) (fun c7 => ?_) (fun c7 => ?_)
          · rw [if_neg c7] at hR
            refine lv_iload_n hx hb dX6_fade_141 rfl (lv_at hl 1 rfl) ?_
            refine va_iast (f := R_125 0) hx hb hK hP hD hS 1 0 rfl rfl (vp_of_B (by decide +kernel : vp_okB (144) 289 = true)) dX6_fade_142 (fun H8 locs hP hD hS => ?_)
            have hP : va_P (dC, dI) vwCl (cMd a cI (sU R_125 0 144 x1_125)) H8 := hP
            have hD : va_D (va_A (cMd a cI R) s.heap.size) (cMd a cI (sU R_125 0 144 x1_125)) := hD
            obtain ⟨Rn9, eRn9⟩ : ∃ z : SR, z = sU R_125 0 144 x1_125 := ⟨_, rfl⟩
            rw [sLet_eq, ← eRn9] at hR
            rw [← eRn9] at hP hD
            have hI10 : RA Rn9 := (by rw [eRn9]; exact ra_s hI_125 (by decide +kernel))
            have hn11 : ¬ Rn9 0 145 = 0 := (by rw [eRn9]; exact n_s hn_125 (by decide +kernel))
            have hx12 : FX R Rn9 := (by rw [eRn9]; exact hx_125)
            exact W.vret hx hb hr (fun t ht hWw => ⟨⟨Rn9, rfl, ⟨hR.symm.trans eR, hI10, hn11, hx12⟩, by rw [ht]; exact hP, hD⟩, hS.F ht⟩) hS.2.2 dX6_fade_143
          · rw [if_pos c7] at hR
            refine lv_iconst (v := (-1)) hx hb dX6_fade_137 (by decide) ?_
            refine lv_goto (tgt := 142) hx hb dX6_fade_138 (by decide) ?_
            refine va_iast (f := R_125 0) hx hb hK hP hD hS 1 0 rfl rfl (vp_of_B (by decide +kernel : vp_okB (144) 289 = true)) dX6_fade_142 (fun H13 locs hP hD hS => ?_)
            have hP : va_P (dC, dI) vwCl (cMd a cI (sU R_125 0 144 (-1))) H13 := hP
            have hD : va_D (va_A (cMd a cI R) s.heap.size) (cMd a cI (sU R_125 0 144 (-1))) := hD
            obtain ⟨Rn14, eRn14⟩ : ∃ z : SR, z = sU R_125 0 144 (-1) := ⟨_, rfl⟩
            rw [sLet_eq, ← eRn14] at hR
            rw [← eRn14] at hP hD
            have hI15 : RA Rn14 := (by rw [eRn14]; exact ra_s hI_125 (by decide +kernel))
            have hn16 : ¬ Rn14 0 145 = 0 := (by rw [eRn14]; exact n_s hn_125 (by decide +kernel))
            have hx17 : FX R Rn14 := (by rw [eRn14]; exact hx_125)
            exact W.vret hx hb hr (fun t ht hWw => ⟨⟨Rn14, rfl, ⟨hR.symm.trans eR, hI15, hn16, hx17⟩, by rw [ht]; exact hP, hD⟩, hS.F ht⟩) hS.2.2 dX6_fade_143
        have hJ_113 : ∀ (x1_113 : Int32) (x2_113 : Int32)  (R_113 : SR), RA R_113 → ¬ R_113 0 145 = 0 → FX R R_113 → R0 = f_X6_fade_p113 x1_113 x2_113 R_113 → ∀ (H : Heap) (locs : List Loc) (ls : Array Slot), va_P (dC, dI) vwCl (cMd a cI R_113) H → va_D (va_A (cMd a cI R) s.heap.size) (cMd a cI R_113) → va_S (va_A (cMd a cI R) s.heap.size) s.heap H locs → lv_has ls 4 [(0, .ref (a 0)), (1, .int x1_113), (2, .int x2_113)] → W p l e (headSpec wsX6_fade rm_X6_fade).room s m ([.ref (a 0)] : List Value).toArray below meth c H locs 0 0 (MQ below (va_Qv (fun (u : SR) => u = f_X6_fade R ∧ (RA u) ∧ (¬ u 0 145 = 0) ∧ (FX R u)) (fun u U => va_P (dC, dI) vwCl (cMd a cI u) U.heap ∧ va_D (va_A (cMd a cI R) s.heap.size) (cMd a cI u)) (va_A (cMd a cI R) s.heap.size)) ([.ref (a 0)] : List Value).toArray s 0 0 (va_A (cMd a cI R) s.heap.size)) (F0 m 113 ls []) := by
          intro x1_113 x2_113 R_113 hI_113 hn_113 hx_113 hR H locs ls hP hD hS hl
          rw [f_X6_fade_p113] at hR
          refine lv_aload_n hx hb dX6_fade_113 rfl (lv_at hl 0 rfl) ?_
          refine lv_aload_n hx hb dX6_fade_114 rfl (lv_at hl 0 rfl) ?_
          refine va_get (D := (dC, dI)) (ci := 6) (v := .ref (a 1)) (C := RX6) (T := TX6) (N := 15) hx hb hts hin6 hown hK hP 0 rfl rfl 1 (by decide) (hts (.fieldLink RX6 7 "FeedDeskModel" "s" "[I") (List.mem_of_getElem? (i := 1) rfl)) (fun _ h9 => h9) rfl dX6_fade_115 ?_
          refine lv_sipush (v := 178) hx hb dX6_fade_118 (by decide) ?_
          refine va_iald (f := R_113 0) hx hb hK hP 1 0 rfl rfl (vp_of_B (by decide +kernel : vp_okB (178) 289 = true)) dX6_fade_121 ?_
          refine lv_eqi (y := R_113 0 178) rfl ?_
          have hPc : va_P (dC, dI) vwCl (cMd a cI R_113) H := hP.sub [0, 1, 2, 3, 4, 5, 6] rfl
          have hDc : va_D (va_A (cMd a cI R) s.heap.size) (cMd a cI R_113) := hD.sub [0, 1, 2, 3, 4, 5, 6] (by decide) rfl
          have hFc : ∀ q : Nat, va_A (cMd a cI R_113) H.size q → (va_A (cMd a cI R) s.heap.size) q := va_free hD hS hA [0, 1, 2, 3, 4, 5, 6] rfl
          refine va_callv (va_runV (As := [.int (R_113 0 178)]) (rest := []) ⟨hx, hb, hml, hown, hts⟩ (c_X6_mute l dC dI cI cC cS a R_113 H.size (R_113 0 178) hI_113) (cwV 1 hts gX6_fade_X6_mute rfl rfl rfl (by decide +kernel) ⟨Nat.le_of_ble_eq_true rfl, Nat.le_of_ble_eq_true rfl⟩) (pV (q0 := 0) hK hPc hDc hN rfl rfl) rfl rfl hl.1 rfl (lv_room (Nat.le_of_ble_eq_true rfl)) dX6_fade_122 ⟨Nat.le_of_ble_eq_true rfl, Nat.le_of_ble_eq_true rfl⟩) hS (fun q _ h => hFc q h) hFc (fun u_18 t_18 H19 locs ht hvm hw hB hz1 hk1 hS => ?_)
          obtain ⟨hw, hens20, hens21, hens22, hens23⟩ := hw
          obtain ⟨hP1, hD1⟩ := hB
          rw [ht] at hP1
          subst hw
          obtain ⟨hP, hD⟩ := va_join (wc := cMd a cI R_113) (wr := []) (w1 := cMd a cI (f_X6_mute R_113 (R_113 0 178))) hP hD [0, 1, 2, 3, 4, 5, 6] [] rfl rfl (by decide) (by decide) hk1 hFc hP1 hD1
          have hP : va_P (dC, dI) vwCl (cMd a cI (f_X6_mute R_113 (R_113 0 178))) H19 := hP.sub [0, 1, 2, 3, 4, 5, 6] rfl
          have hD : va_D (va_A (cMd a cI R) s.heap.size) (cMd a cI (f_X6_mute R_113 (R_113 0 178))) := hD.sub [0, 1, 2, 3, 4, 5, 6] (by decide) rfl
          obtain ⟨Rn24, eRn24⟩ : ∃ z : SR, z = (f_X6_mute R_113 (R_113 0 178)) := ⟨_, rfl⟩
          rw [sLet_eq, ← eRn24] at hR
          rw [← eRn24] at hP hD
          have hI25 : RA Rn24 := by rw [eRn24]; exact hens20
          have hn26 : ¬ Rn24 0 145 = 0 := (by rw [eRn24, hens22]; exact hn_113)
          have hx27 : FX R Rn24 := (by rw [eRn24]; exact fx_tr hx_113 hens23)
          have hq28 : FX R_113 Rn24 := by rw [eRn24]; exact hens23
          exact hJ_125 x1_113 x2_113 Rn24 hI25 hn26 hx27 hR _ _ _ hP hD hS (lv_sub hl [0, 1, 2] rfl)
        refine lv_icmp_eq (tgt := 113) hx hb dX6_fade_101 (by decide) (fun c29 => ?_) (fun c29 => ?_)
        · rw [if_pos c29] at hR
          exact hJ_113 x1_32 x2_32 R_32 hI_32 hn_32 hx_32 hR _ _ _ hP hD hS (lv_sub hl [0, 1, 2] rfl)
        · rw [if_neg c29] at hR
          refine lv_iconst (v := 2) hx hb dX6_fade_104 (by decide) ?_
          refine lv_iload_n hx hb dX6_fade_105 rfl (lv_at hl 1 rfl) ?_
          refine lv_imul hx hb dX6_fade_106 ?_
          refine lv_iload_n hx hb dX6_fade_107 rfl (lv_at hl 2 rfl) ?_
          refine lv_iconst (v := 1) hx hb dX6_fade_108 (by decide) ?_
          refine lv_iadd hx hb dX6_fade_109 ?_
          refine lv_icmp_ne (tgt := 125) hx hb dX6_fade_110 (by decide) (fun c30 => ?_) (fun c30 => ?_)
          · rw [if_neg c30] at hR
            exact hJ_125 x1_32 x2_32 R_32 hI_32 hn_32 hx_32 hR _ _ _ hP hD hS (lv_sub hl [0, 1, 2] rfl)
          · rw [if_pos c30] at hR
            exact hJ_113 x1_32 x2_32 R_32 hI_32 hn_32 hx_32 hR _ _ _ hP hD hS (lv_sub hl [0, 1, 2] rfl)
      · rw [if_neg c6] at hR
        have hj_32 : j_32 < 16 := lp_ge ex3_32 (by decide +kernel) (by omega) (by omega) c6
        refine lv_aload_n hx hb dX6_fade_38 rfl (lv_at hl 0 rfl) ?_
        refine lv_iload_n hx hb dX6_fade_39 rfl (lv_at hl 3 rfl) ?_
        have hPc : va_P (dC, dI) vwCl (cMd a cI R_32) H := hP.sub [0, 1, 2, 3, 4, 5, 6] rfl
        have hDc : va_D (va_A (cMd a cI R) s.heap.size) (cMd a cI R_32) := hD.sub [0, 1, 2, 3, 4, 5, 6] (by decide) rfl
        have hFc : ∀ q : Nat, va_A [] H.size q → (va_A (cMd a cI R) s.heap.size) q := roF hS hA
        refine va_calli (va_runV (As := [.int x3_32]) (rest := []) ⟨hx, hb, hml, hown, hts⟩ (c_X6_isTouched l dC dI cI cC cS a R_32 H.size x3_32) (cwV 1 hts gX6_fade_X6_isTouched rfl rfl rfl (by decide +kernel) ⟨Nat.le_of_ble_eq_true rfl, Nat.le_of_ble_eq_true rfl⟩) (pV (q0 := 0) hK hPc hDc hN rfl rfl) rfl rfl hl.1 rfl (lv_room (Nat.le_of_ble_eq_true rfl)) dX6_fade_40 ⟨Nat.le_of_ble_eq_true rfl, Nat.le_of_ble_eq_true rfl⟩) hS (fun q _ h => hFc q h) hFc (fun r_31 u_31 t_31 H32 locs ht hvm hw hB hz1 hk1 hS => ?_)
        obtain ⟨hw, hre33⟩ := hw
        subst hw
        have hP := ro_keep hP hk1
        refine lv_if_ne (tgt := 91) hx hb dX6_fade_43 (by decide) (fun c34 => ?_) (fun c34 => ?_)
        · rw [if_neg c34] at hR
          refine lv_iinc (v := x3_32 + 1) (lv' := [(3, .int (x3_32 + 1)), (0, .ref (a 0)), (1, .int x1_32), (2, .int x2_32)]) hx hb dX6_fade_91 hl (k := 3) rfl rfl (by decide) rfl (fun ls hl => ?_)
          refine lv_goto (tgt := 32) hx hb dX6_fade_94 (by decide) ?_
          exact ih_32 (j_32 + 1) x1_32 x2_32 (x3_32 + 1) R_32 (by rw [ex3_32, nI_1]) (by omega) (by omega) hI_32 hn_32 hx_32 hz_32 hR _ _ _ hP hD hS (lv_sub hl [1, 2, 3, 0] rfl)
        · rw [if_pos c34] at hR
          refine lv_aload_n hx hb dX6_fade_46 rfl (lv_at hl 0 rfl) ?_
          refine va_get (D := (dC, dI)) (ci := 6) (v := .ref (a 1)) (C := RX6) (T := TX6) (N := 15) hx hb hts hin6 hown hK hP 0 rfl rfl 1 (by decide) (hts (.fieldLink RX6 7 "FeedDeskModel" "s" "[I") (List.mem_of_getElem? (i := 1) rfl)) (fun _ h9 => h9) rfl dX6_fade_47 ?_
          refine lv_iload_n hx hb dX6_fade_50 rfl (lv_at hl 3 rfl) ?_
          have hFc : ∀ q : Nat, va_A [] H32.size q → (va_A (cMd a cI R) s.heap.size) q := roF hS hA
          refine va_calli (va_runS (As := [.int x3_32]) (rest := [.ref (a 1)]) ⟨hx, hb, hml, hown, hts⟩ (c_X6_at l dC dI cI cC cS H32.size x3_32) (va_cwS 1 hts gX6_fade_X6_at rfl rfl rfl (by decide +kernel) ⟨Nat.le_of_ble_eq_true rfl, Nat.le_of_ble_eq_true rfl⟩) (pS hK (va_P_nil) (va_D_nil) hN) rfl rfl hl.1 rfl (lv_room (Nat.le_of_ble_eq_true rfl)) dX6_fade_51 ⟨Nat.le_of_ble_eq_true rfl, Nat.le_of_ble_eq_true rfl⟩) hS (fun q _ h => hFc q h) hFc (fun r_35 u_35 t_35 H36 locs ht hvm hw hB hz1 hk1 hS => ?_)
          subst hw
          have hP := ro_keep hP hk1
          refine lv_aload_n hx hb dX6_fade_54 rfl (lv_at hl 0 rfl) ?_
          refine va_get (D := (dC, dI)) (ci := 6) (v := .ref (a 1)) (C := RX6) (T := TX6) (N := 15) hx hb hts hin6 hown hK hP 0 rfl rfl 1 (by decide) (hts (.fieldLink RX6 7 "FeedDeskModel" "s" "[I") (List.mem_of_getElem? (i := 1) rfl)) (fun _ h9 => h9) rfl dX6_fade_55 ?_
          refine lv_sipush (v := 146) hx hb dX6_fade_58 (by decide) ?_
          refine lv_iload_n hx hb dX6_fade_61 rfl (lv_at hl 3 rfl) ?_
          refine lv_iadd hx hb dX6_fade_62 ?_
          refine va_iald (f := R_32 0) hx hb hK hP 1 0 rfl rfl (by rw [ex3_32]; exact vp_of_B (ix_22 j_32 hj_32)) dX6_fade_63 ?_
          refine lv_aload_n hx hb dX6_fade_64 rfl (lv_at hl 0 rfl) ?_
          refine va_get (D := (dC, dI)) (ci := 6) (v := .ref (a 1)) (C := RX6) (T := TX6) (N := 15) hx hb hts hin6 hown hK hP 0 rfl rfl 1 (by decide) (hts (.fieldLink RX6 7 "FeedDeskModel" "s" "[I") (List.mem_of_getElem? (i := 1) rfl)) (fun _ h9 => h9) rfl dX6_fade_65 ?_
          refine lv_sipush (v := 162) hx hb dX6_fade_68 (by decide) ?_
          refine lv_iload_n hx hb dX6_fade_71 rfl (lv_at hl 3 rfl) ?_
          refine lv_iadd hx hb dX6_fade_72 ?_
          refine va_iald (f := R_32 0) hx hb hK hP 1 0 rfl rfl (by rw [ex3_32]; exact vp_of_B (ix_23 j_32 hj_32)) dX6_fade_73 ?_
          refine lv_aload_n hx hb dX6_fade_74 rfl (lv_at hl 0 rfl) ?_
          refine va_get (D := (dC, dI)) (ci := 6) (v := .ref (a 1)) (C := RX6) (T := TX6) (N := 15) hx hb hts hin6 hown hK hP 0 rfl rfl 1 (by decide) (hts (.fieldLink RX6 7 "FeedDeskModel" "s" "[I") (List.mem_of_getElem? (i := 1) rfl)) (fun _ h9 => h9) rfl dX6_fade_75 ?_
          refine lv_sipush (v := 146) hx hb dX6_fade_78 (by decide) ?_
          refine lv_iload_n hx hb dX6_fade_81 rfl (lv_at hl 3 rfl) ?_
          refine lv_iadd hx hb dX6_fade_82 ?_
          refine va_iald (f := R_32 0) hx hb hK hP 1 0 rfl rfl (by rw [ex3_32]; exact vp_of_B (ix_22 j_32 hj_32)) dX6_fade_83 ?_
          refine lv_isub hx hb dX6_fade_84 ?_
          refine lv_iload_n hx hb dX6_fade_85 rfl (lv_at hl 1 rfl) ?_
          refine lv_imul hx hb dX6_fade_86 ?_
          refine lv_iload_n hx hb dX6_fade_87 rfl (lv_at hl 2 rfl) ?_
          refine lv_idiv hx hb dX6_fade_88 hz_32 ?_
          refine lv_iadd hx hb dX6_fade_89 ?_
          refine va_iast (f := R_32 0) hx hb hK hP hD hS 1 0 rfl rfl (by rw [ex3_32]; exact vp_of_B (ix_24 j_32 hj_32)) dX6_fade_90 (fun H37 locs hP hD hS => ?_)
          have hP : va_P (dC, dI) vwCl (cMd a cI (sU R_32 0 (f_X6_at x3_32).toNatClampNeg ((R_32 0 (146 + x3_32).toNatClampNeg) + ((((R_32 0 (162 + x3_32).toNatClampNeg) - (R_32 0 (146 + x3_32).toNatClampNeg)) * x1_32) / x2_32)))) H37 := hP
          have hD : va_D (va_A (cMd a cI R) s.heap.size) (cMd a cI (sU R_32 0 (f_X6_at x3_32).toNatClampNeg ((R_32 0 (146 + x3_32).toNatClampNeg) + ((((R_32 0 (162 + x3_32).toNatClampNeg) - (R_32 0 (146 + x3_32).toNatClampNeg)) * x1_32) / x2_32)))) := hD
          obtain ⟨Rn38, eRn38⟩ : ∃ z : SR, z = sU R_32 0 (f_X6_at x3_32).toNatClampNeg ((R_32 0 (146 + x3_32).toNatClampNeg) + ((((R_32 0 (162 + x3_32).toNatClampNeg) - (R_32 0 (146 + x3_32).toNatClampNeg)) * x1_32) / x2_32)) := ⟨_, rfl⟩
          rw [sLet_eq, ← eRn38] at hR
          rw [← eRn38] at hP hD
          have hI39 : RA Rn38 := (by rw [eRn38]; exact ra_s hI_32 (by rw [ex3_32]; exact ok_25 j_32 hj_32))
          have hn40 : ¬ Rn38 0 145 = 0 := (by rw [eRn38]; exact n_s hn_32 (by rw [ex3_32]; exact ok_26 j_32 hj_32))
          have hx41 : FX R Rn38 := (by rw [eRn38]; exact hx_32)
          refine lv_iinc (v := x3_32 + 1) (lv' := [(3, .int (x3_32 + 1)), (0, .ref (a 0)), (1, .int x1_32), (2, .int x2_32)]) hx hb dX6_fade_91 hl (k := 3) rfl rfl (by decide) rfl (fun ls hl => ?_)
          refine lv_goto (tgt := 32) hx hb dX6_fade_94 (by decide) ?_
          exact ih_32 (j_32 + 1) x1_32 x2_32 (x3_32 + 1) Rn38 (by rw [ex3_32, nI_1]) (by omega) (by omega) hI39 hn40 hx41 hz_32 hR _ _ _ hP hD hS (lv_sub hl [1, 2, 3, 0] rfl)
  exact hL_32 17 0 (Rn2 0 144) (Rn2 0 145) 0 Rn2 (by decide +kernel) (by decide) (by decide) hI3 hn4 hx5 hn4 hR _ _ _ hP hD hS (lv_sub hl [3, 2, 1, 0] rfl)
abbrev rm_X6_tick : Room := { frames := 4, cells := 0, slots := 0, locals := 88 }
def f_X6_tick_p188   : Nat → Int32 → Int32 → SR → SR
  | 0, _, _, R_188 => R_188
  | n_188 + 1, x1_188, x2_188, R_188 => (if 12 ≤ x2_188 then sLet (sU R_188 0 141 x1_188) (fun Rn5 : SR => sLet (sU Rn5 0 142 (f_X6_more (Rn5 0 142) x1_188)) (fun Rn12 : SR => sLet (sU Rn12 0 140 ((Rn12 0 140) + 1)) (fun Rn17 : SR => Rn17))) else (f_X6_tick_p188 n_188) (x1_188 + (((R_188 0 (60 + x2_188).toNatClampNeg) * (f_X6_level R_188 x2_188)) / 100)) (x2_188 + 1) R_188)
def f_X6_tick_p97  (kb88 : Int32 → SR → SR) : Nat → Int32 → Int32 → Int32 → SR → SR
  | 0, _, _, _, R_97 => R_97
  | n_97 + 1, x1_97, x2_97, x3_97, R_97 => (if 12 ≤ x3_97 then (if x2_97 ≤ 9999 then sLet (sU R_97 0 (136 + x1_97).toNatClampNeg x2_97) (fun Rn26 : SR => (if x2_97 ≤ 9999 then sLet (sU Rn26 0 143 ((Rn26 0 143) + 0)) (fun Rn32 : SR => kb88 (x1_97 + 1) Rn32) else sLet (sU Rn26 0 143 ((Rn26 0 143) + 1)) (fun Rn37 : SR => kb88 (x1_97 + 1) Rn37))) else sLet (sU R_97 0 (136 + x1_97).toNatClampNeg 9999) (fun Rn42 : SR => (if x2_97 ≤ 9999 then sLet (sU Rn42 0 143 ((Rn42 0 143) + 0)) (fun Rn48 : SR => kb88 (x1_97 + 1) Rn48) else sLet (sU Rn42 0 143 ((Rn42 0 143) + 1)) (fun Rn53 : SR => kb88 (x1_97 + 1) Rn53)))) else (f_X6_tick_p97 kb88 n_97) x1_97 (x2_97 + (((R_97 0 (60 + x3_97).toNatClampNeg) * (f_X6_gain R_97 x1_97 x3_97)) / 100)) (x3_97 + 1) R_97)
def f_X6_tick_p88   : Nat → Int32 → SR → SR
  | 0, _, R_88 => R_88
  | n_88 + 1, x1_88, R_88 => (if 4 ≤ x1_88 then f_X6_tick_p188 13 0 0 R_88 else f_X6_tick_p97 (f_X6_tick_p88 n_88) 13 x1_88 0 0 R_88)
def f_X6_tick_p55  (kb17 : Int32 → SR → SR) (x1_55 : Int32) (s0_55 : Int32) (s1_55 : Int32) (R_55 : SR) : SR := (if (s1_55 + s0_55) ≤ 9999 then sLet (sU R_55 0 (60 + x1_55).toNatClampNeg (s1_55 + s0_55)) (fun Rn66 : SR => kb17 (x1_55 + 1) Rn66) else sLet (sU R_55 0 (60 + x1_55).toNatClampNeg 9999) (fun Rn71 : SR => kb17 (x1_55 + 1) Rn71))
def f_X6_tick_p17   : Nat → Int32 → SR → SR
  | 0, _, R_17 => R_17
  | n_17 + 1, x1_17, R_17 => (if 12 ≤ x1_17 then f_X6_tick_p88 5 0 R_17 else (if (f_X6_backInto R_17 x1_17) = (-99) then f_X6_tick_p55 (f_X6_tick_p17 n_17) x1_17 0 (f_X6_of R_17 x1_17 0) R_17 else f_X6_tick_p55 (f_X6_tick_p17 n_17) x1_17 (R_17 0 (136 + (f_X6_backInto R_17 x1_17)).toNatClampNeg) (f_X6_of R_17 x1_17 0) R_17))
def f_X6_tick_p15     (R_15 : SR) : SR := f_X6_tick_p17 13 0 R_15
def f_X6_tick (R : SR)  : SR := (if (R 0 144) < 0 then f_X6_tick_p15 R else sLet ((f_X6_fade R)) (fun Rn82 : SR => f_X6_tick_p15 Rn82))
theorem ix_27 : ∀ q0 : Nat, q0 < 12 → vp_okB (60 + (nI q0)) 289 = true := by decide +kernel
theorem ix_28 : ∀ q0 : Nat, q0 < 4 → vp_okB (136 + (nI q0)) 289 = true := by decide +kernel
theorem ok_29 : ∀ q0 : Nat, q0 < 4 → okR (136 + (nI q0)).toNatClampNeg = true := by decide +kernel
theorem ok_30 : ∀ q0 : Nat, q0 < 4 → okT (136 + (nI q0)).toNatClampNeg = true := by decide +kernel
theorem ok_31 : ∀ q0 : Nat, q0 < 12 → okR (60 + (nI q0)).toNatClampNeg = true := by decide +kernel
theorem ok_32 : ∀ q0 : Nat, q0 < 12 → okT (60 + (nI q0)).toNatClampNeg = true := by decide +kernel
set_option maxHeartbeats 4000000 in
set_option maxRecDepth 100000 in
theorem c_X6_tick (l : Launch) (dC : Nat → ClassId) (dI : Nat → Nat → Nat) (cI cC cS : ClassId) (a : Nat → Nat) (R : SR) (sz : Nat)  (hI : RA R) (hs : RS R) : Met l yX6_tick wsX6_tick rm_X6_tick (PcG (dC, dI) (tyL cI cC cS) (cMd a cI R) sz [.ref (a 0)]) (va_Qv (fun (u : SR) => u = f_X6_tick R ∧ (RA u) ∧ (RS u) ∧ (FX R u)) (fun u U => va_P (dC, dI) vwCl (cMd a cI u) U.heap ∧ va_D (va_A (cMd a cI R) sz) (cMd a cI u)) (va_A (cMd a cI R) sz)) 0 0 (va_A (cMd a cI R) sz) := by
  refine Met.ofW (cc := cX6_tick) (maxL := 4) (ret := none) (by decide) rfl ?_
  intro p e s m args below meth c s₁ B hml hv
  obtain ⟨rfl, hsz, hP, hK, hD0, hN⟩ := hv
  have hx := B.exec
  have hb := B.bytes
  have hr := B.returns
  have hts := atoms_spec (ws := wsX6_tick) B.pre
  have hown : s.vm.findClass RX6 = some m.cls := findClass_of_methodNamed B.named
  have hlocks := B.notSynchronized
  subst hsz
  have hD := hD0.self (sz := s.heap.size)
  have hA : ∀ q : Nat, s.heap.size ≤ q → (va_A (cMd a cI R) s.heap.size) q := fun q h => Or.inr h
  have hS : va_S (va_A (cMd a cI R) s.heap.size) s.heap s.heap [] := va_S.rf
  have hin6 : ∀ w ∈ wsX60, w ∈ wsX6_tick := fun _ h => List.mem_cons_of_mem _ (List.mem_append_right _ h)
  have hx_0 : FX R R := fx_rf
  have hl := lv_entry [.ref (a 0)] (n := 4) (Nat.le_of_ble_eq_true rfl)
  rw [lg_entry_eq]
  generalize (lg_sl [.ref (a 0)] ++ List.replicate (4 - (lg_sl [.ref (a 0)]).length) Slot.unset).toArray = ls at hl ⊢
  have hl : lv_has ls 4 [(0, .ref (a 0))] := hl
  obtain ⟨R0, eR⟩ : ∃ z, z = f_X6_tick R := ⟨_, rfl⟩
  have hR := eR
  rw [f_X6_tick] at hR
  refine lv_aload_n hx hb dX6_tick_0 rfl (lv_at hl 0 rfl) ?_
  refine va_get (D := (dC, dI)) (ci := 6) (v := .ref (a 1)) (C := RX6) (T := TX6) (N := 15) hx hb hts hin6 hown hK hP 0 rfl rfl 1 (by decide) (hts (.fieldLink RX6 7 "FeedDeskModel" "s" "[I") (List.mem_of_getElem? (i := 1) rfl)) (fun _ h9 => h9) rfl dX6_tick_1 ?_
  refine lv_sipush (v := 144) hx hb dX6_tick_4 (by decide) ?_
  refine va_iald (f := R 0) hx hb hK hP 1 0 rfl rfl (vp_of_B (by decide +kernel : vp_okB (144) 289 = true)) dX6_tick_7 ?_
  refine lv_eqi (y := R 0 144) rfl ?_
  have hJ_15 : ∀   (R_15 : SR), RA R_15 → RS R_15 → FX R R_15 → R0 = f_X6_tick_p15 R_15 → ∀ (H : Heap) (locs : List Loc) (ls : Array Slot), va_P (dC, dI) vwCl (cMd a cI R_15) H → va_D (va_A (cMd a cI R) s.heap.size) (cMd a cI R_15) → va_S (va_A (cMd a cI R) s.heap.size) s.heap H locs → lv_has ls 4 [(0, .ref (a 0))] → W p l e (headSpec wsX6_tick rm_X6_tick).room s m ([.ref (a 0)] : List Value).toArray below meth c H locs 0 0 (MQ below (va_Qv (fun (u : SR) => u = f_X6_tick R ∧ (RA u) ∧ (RS u) ∧ (FX R u)) (fun u U => va_P (dC, dI) vwCl (cMd a cI u) U.heap ∧ va_D (va_A (cMd a cI R) s.heap.size) (cMd a cI u)) (va_A (cMd a cI R) s.heap.size)) ([.ref (a 0)] : List Value).toArray s 0 0 (va_A (cMd a cI R) s.heap.size)) (F0 m 15 ls []) := by
    intro R_15 hI_15 hs_15 hx_15 hR H locs ls hP hD hS hl
    rw [f_X6_tick_p15] at hR
    refine lv_iconst (v := 0) hx hb dX6_tick_15 (by decide) ?_
    refine lv_istore_n (lv' := [(1, .int 0), (0, .ref (a 0))]) hx hb dX6_tick_16 rfl hl (by decide) rfl (fun ls hl => ?_)
    have hL_17 : ∀ n_17 : Nat, ∀ (j_17 : Nat), ∀ (x1_17 : Int32) (R_17 : SR), x1_17 = nI j_17 → j_17 ≤ 12 → 12 < j_17 + n_17 → RA R_17 → RS R_17 → FX R R_17 → R0 = f_X6_tick_p17 n_17 x1_17 R_17 → ∀ (H : Heap) (locs : List Loc) (ls : Array Slot), va_P (dC, dI) vwCl (cMd a cI R_17) H → va_D (va_A (cMd a cI R) s.heap.size) (cMd a cI R_17) → va_S (va_A (cMd a cI R) s.heap.size) s.heap H locs → lv_has ls 4 [(0, .ref (a 0)), (1, .int x1_17)] → W p l e (headSpec wsX6_tick rm_X6_tick).room s m ([.ref (a 0)] : List Value).toArray below meth c H locs 0 0 (MQ below (va_Qv (fun (u : SR) => u = f_X6_tick R ∧ (RA u) ∧ (RS u) ∧ (FX R u)) (fun u U => va_P (dC, dI) vwCl (cMd a cI u) U.heap ∧ va_D (va_A (cMd a cI R) s.heap.size) (cMd a cI u)) (va_A (cMd a cI R) s.heap.size)) ([.ref (a 0)] : List Value).toArray s 0 0 (va_A (cMd a cI R) s.heap.size)) (F0 m 17 ls []) := by
      intro n_17
      induction n_17 with
      | zero =>
        intro j_17 x1_17 R_17 ex1_17 hj0_17 hn_17 hI_17 hs_17 hx_17
        exact absurd hn_17 (by omega)
      | succ n_17 ih_17 =>
        intro j_17 x1_17 R_17 ex1_17 hj0_17 hn_17 hI_17 hs_17 hx_17 hR H locs ls hP hD hS hl
        rw [f_X6_tick_p17] at hR
        refine lv_iload_n hx hb dX6_tick_17 rfl (lv_at hl 1 rfl) ?_
        refine lv_bipush (v := 12) hx hb dX6_tick_18 (by decide) ?_
        refine lv_icmp_ge (tgt := 86) hx hb dX6_tick_20 (by decide) (fun c1 => ?_) (fun c1 => ?_)
        · rw [if_pos c1] at hR
          refine lv_iconst (v := 0) hx hb dX6_tick_86 (by decide) ?_
          refine lv_istore_n (lv' := [(1, .int 0), (0, .ref (a 0))]) hx hb dX6_tick_87 rfl hl (by decide) rfl (fun ls hl => ?_)
          have hL_88 : ∀ n_88 : Nat, ∀ (j_88 : Nat), ∀ (x1_88 : Int32) (R_88 : SR), x1_88 = nI j_88 → j_88 ≤ 4 → 4 < j_88 + n_88 → RA R_88 → RS R_88 → FX R R_88 → R0 = f_X6_tick_p88 n_88 x1_88 R_88 → ∀ (H : Heap) (locs : List Loc) (ls : Array Slot), va_P (dC, dI) vwCl (cMd a cI R_88) H → va_D (va_A (cMd a cI R) s.heap.size) (cMd a cI R_88) → va_S (va_A (cMd a cI R) s.heap.size) s.heap H locs → lv_has ls 4 [(0, .ref (a 0)), (1, .int x1_88)] → W p l e (headSpec wsX6_tick rm_X6_tick).room s m ([.ref (a 0)] : List Value).toArray below meth c H locs 0 0 (MQ below (va_Qv (fun (u : SR) => u = f_X6_tick R ∧ (RA u) ∧ (RS u) ∧ (FX R u)) (fun u U => va_P (dC, dI) vwCl (cMd a cI u) U.heap ∧ va_D (va_A (cMd a cI R) s.heap.size) (cMd a cI u)) (va_A (cMd a cI R) s.heap.size)) ([.ref (a 0)] : List Value).toArray s 0 0 (va_A (cMd a cI R) s.heap.size)) (F0 m 88 ls []) := by
            intro n_88
            induction n_88 with
            | zero =>
              intro j_88 x1_88 R_88 ex1_88 hj0_88 hn_88 hI_88 hs_88 hx_88
              exact absurd hn_88 (by omega)
            | succ n_88 ih_88 =>
              intro j_88 x1_88 R_88 ex1_88 hj0_88 hn_88 hI_88 hs_88 hx_88 hR H locs ls hP hD hS hl
              rw [f_X6_tick_p88] at hR
              refine lv_iload_n hx hb dX6_tick_88 rfl (lv_at hl 1 rfl) ?_
              refine lv_iconst (v := 4) hx hb dX6_tick_89 (by decide) ?_
              refine lv_icmp_ge (tgt := 184) hx hb dX6_tick_90 (by decide) (fun c2 => ?_) (fun c2 => ?_)
              · rw [if_pos c2] at hR
                refine lv_iconst (v := 0) hx hb dX6_tick_184 (by decide) ?_
                refine lv_istore_n (lv' := [(1, .int 0), (0, .ref (a 0))]) hx hb dX6_tick_185 rfl hl (by decide) rfl (fun ls hl => ?_)
                refine lv_iconst (v := 0) hx hb dX6_tick_186 (by decide) ?_
                refine lv_istore_n (lv' := [(2, .int 0), (1, .int 0), (0, .ref (a 0))]) hx hb dX6_tick_187 rfl hl (by decide) rfl (fun ls hl => ?_)
                have hL_188 : ∀ n_188 : Nat, ∀ (j_188 : Nat), ∀ (x1_188 : Int32) (x2_188 : Int32) (R_188 : SR), x2_188 = nI j_188 → j_188 ≤ 12 → 12 < j_188 + n_188 → RA R_188 → RS R_188 → FX R R_188 → R0 = f_X6_tick_p188 n_188 x1_188 x2_188 R_188 → ∀ (H : Heap) (locs : List Loc) (ls : Array Slot), va_P (dC, dI) vwCl (cMd a cI R_188) H → va_D (va_A (cMd a cI R) s.heap.size) (cMd a cI R_188) → va_S (va_A (cMd a cI R) s.heap.size) s.heap H locs → lv_has ls 4 [(0, .ref (a 0)), (1, .int x1_188), (2, .int x2_188)] → W p l e (headSpec wsX6_tick rm_X6_tick).room s m ([.ref (a 0)] : List Value).toArray below meth c H locs 0 0 (MQ below (va_Qv (fun (u : SR) => u = f_X6_tick R ∧ (RA u) ∧ (RS u) ∧ (FX R u)) (fun u U => va_P (dC, dI) vwCl (cMd a cI u) U.heap ∧ va_D (va_A (cMd a cI R) s.heap.size) (cMd a cI u)) (va_A (cMd a cI R) s.heap.size)) ([.ref (a 0)] : List Value).toArray s 0 0 (va_A (cMd a cI R) s.heap.size)) (F0 m 188 ls []) := by
                  intro n_188
                  induction n_188 with
                  | zero =>
                    intro j_188 x1_188 x2_188 R_188 ex2_188 hj0_188 hn_188 hI_188 hs_188 hx_188
                    exact absurd hn_188 (by omega)
                  | succ n_188 ih_188 =>
                    intro j_188 x1_188 x2_188 R_188 ex2_188 hj0_188 hn_188 hI_188 hs_188 hx_188 hR H locs ls hP hD hS hl
                    rw [f_X6_tick_p188] at hR
                    refine lv_iload_n hx hb dX6_tick_188 rfl (lv_at hl 2 rfl) ?_
                    refine lv_bipush (v := 12) hx hb dX6_tick_189 (by decide) ?_
                    refine lv_icmp_ge (tgt := 221) hx hb dX6_tick_191 (by decide) (fun c3 => ?_) (fun c3 => ?_)
                    · rw [if_pos c3] at hR
                      refine lv_aload_n hx hb dX6_tick_221 rfl (lv_at hl 0 rfl) ?_
                      refine va_get (D := (dC, dI)) (ci := 6) (v := .ref (a 1)) (C := RX6) (T := TX6) (N := 15) hx hb hts hin6 hown hK hP 0 rfl rfl 1 (by decide) (hts (.fieldLink RX6 7 "FeedDeskModel" "s" "[I") (List.mem_of_getElem? (i := 1) rfl)) (fun _ h9 => h9) rfl dX6_tick_222 ?_
                      refine lv_sipush (v := 141) hx hb dX6_tick_225 (by decide) ?_
                      refine lv_iload_n hx hb dX6_tick_228 rfl (lv_at hl 1 rfl) ?_
                      refine va_iast (f := R_188 0) hx hb hK hP hD hS 1 0 rfl rfl (vp_of_B (by decide +kernel : vp_okB (141) 289 = true)) dX6_tick_229 (fun H4 locs hP hD hS => ?_)
                      have hP : va_P (dC, dI) vwCl (cMd a cI (sU R_188 0 141 x1_188)) H4 := hP
                      have hD : va_D (va_A (cMd a cI R) s.heap.size) (cMd a cI (sU R_188 0 141 x1_188)) := hD
                      obtain ⟨Rn5, eRn5⟩ : ∃ z : SR, z = sU R_188 0 141 x1_188 := ⟨_, rfl⟩
                      rw [sLet_eq, ← eRn5] at hR
                      rw [← eRn5] at hP hD
                      have hI6 : RA Rn5 := (by rw [eRn5]; exact ra_s hI_188 (by decide +kernel))
                      have hs7 : RS Rn5 := (by rw [eRn5]; exact rs_s hs_188 (by decide +kernel))
                      have hx8 : FX R Rn5 := (by rw [eRn5]; exact hx_188)
                      refine lv_aload_n hx hb dX6_tick_230 rfl (lv_at hl 0 rfl) ?_
                      refine va_get (D := (dC, dI)) (ci := 6) (v := .ref (a 1)) (C := RX6) (T := TX6) (N := 15) hx hb hts hin6 hown hK hP 0 rfl rfl 1 (by decide) (hts (.fieldLink RX6 7 "FeedDeskModel" "s" "[I") (List.mem_of_getElem? (i := 1) rfl)) (fun _ h9 => h9) rfl dX6_tick_231 ?_
                      refine lv_sipush (v := 142) hx hb dX6_tick_234 (by decide) ?_
                      refine lv_aload_n hx hb dX6_tick_237 rfl (lv_at hl 0 rfl) ?_
                      refine va_get (D := (dC, dI)) (ci := 6) (v := .ref (a 1)) (C := RX6) (T := TX6) (N := 15) hx hb hts hin6 hown hK hP 0 rfl rfl 1 (by decide) (hts (.fieldLink RX6 7 "FeedDeskModel" "s" "[I") (List.mem_of_getElem? (i := 1) rfl)) (fun _ h9 => h9) rfl dX6_tick_238 ?_
                      refine lv_sipush (v := 142) hx hb dX6_tick_241 (by decide) ?_
                      refine va_iald (f := Rn5 0) hx hb hK hP 1 0 rfl rfl (vp_of_B (by decide +kernel : vp_okB (142) 289 = true)) dX6_tick_244 ?_
                      refine lv_eqi (y := Rn5 0 142) rfl ?_
                      refine lv_iload_n hx hb dX6_tick_245 rfl (lv_at hl 1 rfl) ?_
                      have hFc : ∀ q : Nat, va_A [] H4.size q → (va_A (cMd a cI R) s.heap.size) q := roF hS hA
                      refine va_calli (va_runS (As := [.int (Rn5 0 142), .int x1_188]) (rest := [.int 142, .ref (a 1)]) ⟨hx, hb, hml, hown, hts⟩ (c_X6_more l dC dI cI cC cS H4.size (Rn5 0 142) x1_188) (va_cwS 2 hts gX6_tick_X6_more rfl rfl rfl (by decide +kernel) ⟨Nat.le_of_ble_eq_true rfl, Nat.le_of_ble_eq_true rfl⟩) (pS hK (va_P_nil) (va_D_nil) hN) rfl rfl hl.1 rfl (lv_room (Nat.le_of_ble_eq_true rfl)) dX6_tick_246 ⟨Nat.le_of_ble_eq_true rfl, Nat.le_of_ble_eq_true rfl⟩) hS (fun q _ h => hFc q h) hFc (fun r_9 u_9 t_9 H10 locs ht hvm hw hB hz1 hk1 hS => ?_)
                      subst hw
                      have hP := ro_keep hP hk1
                      refine va_iast (f := Rn5 0) hx hb hK hP hD hS 1 0 rfl rfl (vp_of_B (by decide +kernel : vp_okB (142) 289 = true)) dX6_tick_249 (fun H11 locs hP hD hS => ?_)
                      have hP : va_P (dC, dI) vwCl (cMd a cI (sU Rn5 0 142 (f_X6_more (Rn5 0 142) x1_188))) H11 := hP
                      have hD : va_D (va_A (cMd a cI R) s.heap.size) (cMd a cI (sU Rn5 0 142 (f_X6_more (Rn5 0 142) x1_188))) := hD
                      obtain ⟨Rn12, eRn12⟩ : ∃ z : SR, z = sU Rn5 0 142 (f_X6_more (Rn5 0 142) x1_188) := ⟨_, rfl⟩
                      rw [sLet_eq, ← eRn12] at hR
                      rw [← eRn12] at hP hD
                      have hI13 : RA Rn12 := (by rw [eRn12]; exact ra_s hI6 (by decide +kernel))
                      have hs14 : RS Rn12 := (by rw [eRn12]; exact rs_s hs7 (by decide +kernel))
                      have hx15 : FX R Rn12 := (by rw [eRn12]; exact hx8)
                      refine lv_aload_n hx hb dX6_tick_250 rfl (lv_at hl 0 rfl) ?_
                      refine va_get (D := (dC, dI)) (ci := 6) (v := .ref (a 1)) (C := RX6) (T := TX6) (N := 15) hx hb hts hin6 hown hK hP 0 rfl rfl 1 (by decide) (hts (.fieldLink RX6 7 "FeedDeskModel" "s" "[I") (List.mem_of_getElem? (i := 1) rfl)) (fun _ h9 => h9) rfl dX6_tick_251 ?_
                      refine lv_sipush (v := 140) hx hb dX6_tick_254 (by decide) ?_
                      refine lv_dup2_11 hx hb dX6_tick_257 rfl rfl ?_
                      refine va_iald (f := Rn12 0) hx hb hK hP 1 0 rfl rfl (vp_of_B (by decide +kernel : vp_okB (140) 289 = true)) dX6_tick_258 ?_
                      refine lv_eqi (y := Rn12 0 140) rfl ?_
                      refine lv_iconst (v := 1) hx hb dX6_tick_259 (by decide) ?_
                      refine lv_iadd hx hb dX6_tick_260 ?_
                      refine va_iast (f := Rn12 0) hx hb hK hP hD hS 1 0 rfl rfl (vp_of_B (by decide +kernel : vp_okB (140) 289 = true)) dX6_tick_261 (fun H16 locs hP hD hS => ?_)
                      have hP : va_P (dC, dI) vwCl (cMd a cI (sU Rn12 0 140 ((Rn12 0 140) + 1))) H16 := hP
                      have hD : va_D (va_A (cMd a cI R) s.heap.size) (cMd a cI (sU Rn12 0 140 ((Rn12 0 140) + 1))) := hD
                      obtain ⟨Rn17, eRn17⟩ : ∃ z : SR, z = sU Rn12 0 140 ((Rn12 0 140) + 1) := ⟨_, rfl⟩
                      rw [sLet_eq, ← eRn17] at hR
                      rw [← eRn17] at hP hD
                      have hI18 : RA Rn17 := (by rw [eRn17]; exact ra_s hI13 (by decide +kernel))
                      have hs19 : RS Rn17 := (by rw [eRn17]; exact rs_s hs14 (by decide +kernel))
                      have hx20 : FX R Rn17 := (by rw [eRn17]; exact hx15)
                      exact W.vret hx hb hr (fun t ht hWw => ⟨⟨Rn17, rfl, ⟨hR.symm.trans eR, hI18, hs19, hx20⟩, by rw [ht]; exact hP, hD⟩, hS.F ht⟩) hS.2.2 dX6_tick_262
                    · rw [if_neg c3] at hR
                      have hj_188 : j_188 < 12 := lp_ge ex2_188 (by decide +kernel) (by omega) (by omega) c3
                      refine lv_iload_n hx hb dX6_tick_194 rfl (lv_at hl 1 rfl) ?_
                      refine lv_aload_n hx hb dX6_tick_195 rfl (lv_at hl 0 rfl) ?_
                      refine va_get (D := (dC, dI)) (ci := 6) (v := .ref (a 1)) (C := RX6) (T := TX6) (N := 15) hx hb hts hin6 hown hK hP 0 rfl rfl 1 (by decide) (hts (.fieldLink RX6 7 "FeedDeskModel" "s" "[I") (List.mem_of_getElem? (i := 1) rfl)) (fun _ h9 => h9) rfl dX6_tick_196 ?_
                      refine lv_bipush (v := 60) hx hb dX6_tick_199 (by decide) ?_
                      refine lv_iload_n hx hb dX6_tick_201 rfl (lv_at hl 2 rfl) ?_
                      refine lv_iadd hx hb dX6_tick_202 ?_
                      refine va_iald (f := R_188 0) hx hb hK hP 1 0 rfl rfl (by rw [ex2_188]; exact vp_of_B (ix_27 j_188 hj_188)) dX6_tick_203 ?_
                      refine lv_aload_n hx hb dX6_tick_204 rfl (lv_at hl 0 rfl) ?_
                      refine lv_iload_n hx hb dX6_tick_205 rfl (lv_at hl 2 rfl) ?_
                      have hPc : va_P (dC, dI) vwCl (cMd a cI R_188) H := hP.sub [0, 1, 2, 3, 4, 5, 6] rfl
                      have hDc : va_D (va_A (cMd a cI R) s.heap.size) (cMd a cI R_188) := hD.sub [0, 1, 2, 3, 4, 5, 6] (by decide) rfl
                      have hFc : ∀ q : Nat, va_A [] H.size q → (va_A (cMd a cI R) s.heap.size) q := roF hS hA
                      refine va_calli (va_runV (As := [.int x2_188]) (rest := [.int (R_188 0 (60 + x2_188).toNatClampNeg), .int x1_188]) ⟨hx, hb, hml, hown, hts⟩ (c_X6_level l dC dI cI cC cS a R_188 H.size x2_188 (by rw [ex2_188]; exact vp_of_B (ix_1 j_188 hj_188))) (cwV 1 hts gX6_tick_X6_level rfl rfl rfl (by decide +kernel) ⟨Nat.le_of_ble_eq_true rfl, Nat.le_of_ble_eq_true rfl⟩) (pV (q0 := 0) hK hPc hDc hN rfl rfl) rfl rfl hl.1 rfl (lv_room (Nat.le_of_ble_eq_true rfl)) dX6_tick_206 ⟨Nat.le_of_ble_eq_true rfl, Nat.le_of_ble_eq_true rfl⟩) hS (fun q _ h => hFc q h) hFc (fun r_21 u_21 t_21 H22 locs ht hvm hw hB hz1 hk1 hS => ?_)
                      subst hw
                      have hP := ro_keep hP hk1
                      refine lv_imul hx hb dX6_tick_209 ?_
                      refine lv_bipush (v := 100) hx hb dX6_tick_210 (by decide) ?_
                      refine lv_idiv hx hb dX6_tick_212 (by decide) ?_
                      refine lv_iadd hx hb dX6_tick_213 ?_
                      refine lv_istore_n (lv' := [(1, .int (x1_188 + (((R_188 0 (60 + x2_188).toNatClampNeg) * (f_X6_level R_188 x2_188)) / 100))), (0, .ref (a 0)), (2, .int x2_188)]) hx hb dX6_tick_214 rfl hl (by decide) rfl (fun ls hl => ?_)
                      refine lv_iinc (v := x2_188 + 1) (lv' := [(2, .int (x2_188 + 1)), (1, .int (x1_188 + (((R_188 0 (60 + x2_188).toNatClampNeg) * (f_X6_level R_188 x2_188)) / 100))), (0, .ref (a 0))]) hx hb dX6_tick_215 hl (k := 2) rfl rfl (by decide) rfl (fun ls hl => ?_)
                      refine lv_goto (tgt := 188) hx hb dX6_tick_218 (by decide) ?_
                      exact ih_188 (j_188 + 1) (x1_188 + (((R_188 0 (60 + x2_188).toNatClampNeg) * (f_X6_level R_188 x2_188)) / 100)) (x2_188 + 1) R_188 (by rw [ex2_188, nI_1]) (by omega) (by omega) hI_188 hs_188 hx_188 hR _ _ _ hP hD hS (lv_sub hl [2, 1, 0] rfl)
                exact hL_188 13 0 0 0 R_88 (by decide +kernel) (by decide) (by decide) hI_88 hs_88 hx_88 hR _ _ _ hP hD hS (lv_sub hl [2, 1, 0] rfl)
              · rw [if_neg c2] at hR
                have hj_88 : j_88 < 4 := lp_ge ex1_88 (by decide +kernel) (by omega) (by omega) c2
                refine lv_iconst (v := 0) hx hb dX6_tick_93 (by decide) ?_
                refine lv_istore_n (lv' := [(2, .int 0), (0, .ref (a 0)), (1, .int x1_88)]) hx hb dX6_tick_94 rfl hl (by decide) rfl (fun ls hl => ?_)
                refine lv_iconst (v := 0) hx hb dX6_tick_95 (by decide) ?_
                refine lv_istore_n (lv' := [(3, .int 0), (2, .int 0), (0, .ref (a 0)), (1, .int x1_88)]) hx hb dX6_tick_96 rfl hl (by decide) rfl (fun ls hl => ?_)
                have hL_97 : ∀ n_97 : Nat, ∀ (j_97 : Nat), ∀ (x1_97 : Int32) (x2_97 : Int32) (x3_97 : Int32) (R_97 : SR), x3_97 = nI j_97 → j_97 ≤ 12 → 12 < j_97 + n_97 → x1_97 = nI j_88 → RA R_97 → RS R_97 → FX R R_97 → R0 = f_X6_tick_p97 (f_X6_tick_p88 n_88) n_97 x1_97 x2_97 x3_97 R_97 → ∀ (H : Heap) (locs : List Loc) (ls : Array Slot), va_P (dC, dI) vwCl (cMd a cI R_97) H → va_D (va_A (cMd a cI R) s.heap.size) (cMd a cI R_97) → va_S (va_A (cMd a cI R) s.heap.size) s.heap H locs → lv_has ls 4 [(0, .ref (a 0)), (1, .int x1_97), (2, .int x2_97), (3, .int x3_97)] → W p l e (headSpec wsX6_tick rm_X6_tick).room s m ([.ref (a 0)] : List Value).toArray below meth c H locs 0 0 (MQ below (va_Qv (fun (u : SR) => u = f_X6_tick R ∧ (RA u) ∧ (RS u) ∧ (FX R u)) (fun u U => va_P (dC, dI) vwCl (cMd a cI u) U.heap ∧ va_D (va_A (cMd a cI R) s.heap.size) (cMd a cI u)) (va_A (cMd a cI R) s.heap.size)) ([.ref (a 0)] : List Value).toArray s 0 0 (va_A (cMd a cI R) s.heap.size)) (F0 m 97 ls []) := by
                  intro n_97
                  induction n_97 with
                  | zero =>
                    intro j_97 x1_97 x2_97 x3_97 R_97 ex3_97 hj0_97 hn_97 ex1_97 hI_97 hs_97 hx_97
                    exact absurd hn_97 (by omega)
                  | succ n_97 ih_97 =>
                    intro j_97 x1_97 x2_97 x3_97 R_97 ex3_97 hj0_97 hn_97 ex1_97 hI_97 hs_97 hx_97 hR H locs ls hP hD hS hl
                    rw [f_X6_tick_p97] at hR
                    refine lv_iload_n hx hb dX6_tick_97 rfl (lv_at hl 3 rfl) ?_
                    refine lv_bipush (v := 12) hx hb dX6_tick_98 (by decide) ?_
                    refine lv_icmp_ge (tgt := 131) hx hb dX6_tick_100 (by decide) (fun c23 => ?_) (fun c23 => ?_)
                    · rw [if_pos c23] at hR
                      refine lv_aload_n hx hb dX6_tick_131 rfl (lv_at hl 0 rfl) ?_
                      refine va_get (D := (dC, dI)) (ci := 6) (v := .ref (a 1)) (C := RX6) (T := TX6) (N := 15) hx hb hts hin6 hown hK hP 0 rfl rfl 1 (by decide) (hts (.fieldLink RX6 7 "FeedDeskModel" "s" "[I") (List.mem_of_getElem? (i := 1) rfl)) (fun _ h9 => h9) rfl dX6_tick_132 ?_
                      refine lv_sipush (v := 136) hx hb dX6_tick_135 (by decide) ?_
                      refine lv_iload_n hx hb dX6_tick_138 rfl (lv_at hl 1 rfl) ?_
                      refine lv_iadd hx hb dX6_tick_139 ?_
                      refine lv_iload_n hx hb dX6_tick_140 rfl (lv_at hl 2 rfl) ?_
                      refine lv_sipush (v := 9999) hx hb dX6_tick_141 (by decide) ?_
                      refine lv_icmp_le (tgt := 153) hx hb dX6_tick_144 (by decide) (fun c24 => ?_) (fun c24 => ?_)
                      · rw [if_pos c24] at hR
                        refine lv_iload_n hx hb dX6_tick_153 rfl (lv_at hl 2 rfl) ?_
                        refine va_iast (f := R_97 0) hx hb hK hP hD hS 1 0 rfl rfl (by rw [ex1_97]; exact vp_of_B (ix_28 j_88 hj_88)) dX6_tick_154 (fun H25 locs hP hD hS => ?_)
                        have hP : va_P (dC, dI) vwCl (cMd a cI (sU R_97 0 (136 + x1_97).toNatClampNeg x2_97)) H25 := hP
                        have hD : va_D (va_A (cMd a cI R) s.heap.size) (cMd a cI (sU R_97 0 (136 + x1_97).toNatClampNeg x2_97)) := hD
                        obtain ⟨Rn26, eRn26⟩ : ∃ z : SR, z = sU R_97 0 (136 + x1_97).toNatClampNeg x2_97 := ⟨_, rfl⟩
                        rw [sLet_eq, ← eRn26] at hR
                        rw [← eRn26] at hP hD
                        have hI27 : RA Rn26 := (by rw [eRn26]; exact ra_s hI_97 (by rw [ex1_97]; exact ok_29 j_88 hj_88))
                        have hs28 : RS Rn26 := (by rw [eRn26]; exact rs_s hs_97 (by rw [ex1_97]; exact ok_30 j_88 hj_88))
                        have hx29 : FX R Rn26 := (by rw [eRn26]; exact hx_97)
                        refine lv_aload_n hx hb dX6_tick_155 rfl (lv_at hl 0 rfl) ?_
                        refine va_get (D := (dC, dI)) (ci := 6) (v := .ref (a 1)) (C := RX6) (T := TX6) (N := 15) hx hb hts hin6 hown hK hP 0 rfl rfl 1 (by decide) (hts (.fieldLink RX6 7 "FeedDeskModel" "s" "[I") (List.mem_of_getElem? (i := 1) rfl)) (fun _ h9 => h9) rfl dX6_tick_156 ?_
                        refine lv_sipush (v := 143) hx hb dX6_tick_159 (by decide) ?_
                        refine lv_dup2_11 hx hb dX6_tick_162 rfl rfl ?_
                        refine va_iald (f := Rn26 0) hx hb hK hP 1 0 rfl rfl (vp_of_B (by decide +kernel : vp_okB (143) 289 = true)) dX6_tick_163 ?_
                        refine lv_eqi (y := Rn26 0 143) rfl ?_
                        refine lv_iload_n hx hb dX6_tick_164 rfl (lv_at hl 2 rfl) ?_
                        refine lv_sipush (v := 9999) hx hb dX6_tick_165 (by decide) ?_
                        refine lv_icmp_le (tgt := 175) hx hb dX6_tick_168 (by decide) (fun c30 => ?_) (fun c30 => ?_)
                        · rw [if_pos c30] at hR
                          refine lv_iconst (v := 0) hx hb dX6_tick_175 (by decide) ?_
                          refine lv_iadd hx hb dX6_tick_176 ?_
                          refine va_iast (f := Rn26 0) hx hb hK hP hD hS 1 0 rfl rfl (vp_of_B (by decide +kernel : vp_okB (143) 289 = true)) dX6_tick_177 (fun H31 locs hP hD hS => ?_)
                          have hP : va_P (dC, dI) vwCl (cMd a cI (sU Rn26 0 143 ((Rn26 0 143) + 0))) H31 := hP
                          have hD : va_D (va_A (cMd a cI R) s.heap.size) (cMd a cI (sU Rn26 0 143 ((Rn26 0 143) + 0))) := hD
                          obtain ⟨Rn32, eRn32⟩ : ∃ z : SR, z = sU Rn26 0 143 ((Rn26 0 143) + 0) := ⟨_, rfl⟩
                          rw [sLet_eq, ← eRn32] at hR
                          rw [← eRn32] at hP hD
                          have hI33 : RA Rn32 := (by rw [eRn32]; exact ra_s hI27 (by decide +kernel))
                          have hs34 : RS Rn32 := (by rw [eRn32]; exact rs_s hs28 (by decide +kernel))
                          have hx35 : FX R Rn32 := (by rw [eRn32]; exact hx29)
                          refine lv_iinc (v := x1_97 + 1) (lv' := [(1, .int (x1_97 + 1)), (0, .ref (a 0)), (2, .int x2_97), (3, .int x3_97)]) hx hb dX6_tick_178 hl (k := 1) rfl rfl (by decide) rfl (fun ls hl => ?_)
                          refine lv_goto (tgt := 88) hx hb dX6_tick_181 (by decide) ?_
                          exact ih_88 (j_88 + 1) (x1_97 + 1) Rn32 (by rw [ex1_97, nI_1]) (by omega) (by omega) hI33 hs34 hx35 hR _ _ _ hP hD hS (lv_sub hl [1, 0] rfl)
                        · rw [if_neg c30] at hR
                          refine lv_iconst (v := 1) hx hb dX6_tick_171 (by decide) ?_
                          refine lv_goto (tgt := 176) hx hb dX6_tick_172 (by decide) ?_
                          refine lv_iadd hx hb dX6_tick_176 ?_
                          refine va_iast (f := Rn26 0) hx hb hK hP hD hS 1 0 rfl rfl (vp_of_B (by decide +kernel : vp_okB (143) 289 = true)) dX6_tick_177 (fun H36 locs hP hD hS => ?_)
                          have hP : va_P (dC, dI) vwCl (cMd a cI (sU Rn26 0 143 ((Rn26 0 143) + 1))) H36 := hP
                          have hD : va_D (va_A (cMd a cI R) s.heap.size) (cMd a cI (sU Rn26 0 143 ((Rn26 0 143) + 1))) := hD
                          obtain ⟨Rn37, eRn37⟩ : ∃ z : SR, z = sU Rn26 0 143 ((Rn26 0 143) + 1) := ⟨_, rfl⟩
                          rw [sLet_eq, ← eRn37] at hR
                          rw [← eRn37] at hP hD
                          have hI38 : RA Rn37 := (by rw [eRn37]; exact ra_s hI27 (by decide +kernel))
                          have hs39 : RS Rn37 := (by rw [eRn37]; exact rs_s hs28 (by decide +kernel))
                          have hx40 : FX R Rn37 := (by rw [eRn37]; exact hx29)
                          refine lv_iinc (v := x1_97 + 1) (lv' := [(1, .int (x1_97 + 1)), (0, .ref (a 0)), (2, .int x2_97), (3, .int x3_97)]) hx hb dX6_tick_178 hl (k := 1) rfl rfl (by decide) rfl (fun ls hl => ?_)
                          refine lv_goto (tgt := 88) hx hb dX6_tick_181 (by decide) ?_
                          exact ih_88 (j_88 + 1) (x1_97 + 1) Rn37 (by rw [ex1_97, nI_1]) (by omega) (by omega) hI38 hs39 hx40 hR _ _ _ hP hD hS (lv_sub hl [1, 0] rfl)
                      · rw [if_neg c24] at hR
                        refine lv_sipush (v := 9999) hx hb dX6_tick_147 (by decide) ?_
                        refine lv_goto (tgt := 154) hx hb dX6_tick_150 (by decide) ?_
                        refine va_iast (f := R_97 0) hx hb hK hP hD hS 1 0 rfl rfl (by rw [ex1_97]; exact vp_of_B (ix_28 j_88 hj_88)) dX6_tick_154 (fun H41 locs hP hD hS => ?_)
                        have hP : va_P (dC, dI) vwCl (cMd a cI (sU R_97 0 (136 + x1_97).toNatClampNeg 9999)) H41 := hP
                        have hD : va_D (va_A (cMd a cI R) s.heap.size) (cMd a cI (sU R_97 0 (136 + x1_97).toNatClampNeg 9999)) := hD
                        obtain ⟨Rn42, eRn42⟩ : ∃ z : SR, z = sU R_97 0 (136 + x1_97).toNatClampNeg 9999 := ⟨_, rfl⟩
                        rw [sLet_eq, ← eRn42] at hR
                        rw [← eRn42] at hP hD
                        have hI43 : RA Rn42 := (by rw [eRn42]; exact ra_s hI_97 (by rw [ex1_97]; exact ok_29 j_88 hj_88))
                        have hs44 : RS Rn42 := (by rw [eRn42]; exact rs_s hs_97 (by rw [ex1_97]; exact ok_30 j_88 hj_88))
                        have hx45 : FX R Rn42 := (by rw [eRn42]; exact hx_97)
                        refine lv_aload_n hx hb dX6_tick_155 rfl (lv_at hl 0 rfl) ?_
                        refine va_get (D := (dC, dI)) (ci := 6) (v := .ref (a 1)) (C := RX6) (T := TX6) (N := 15) hx hb hts hin6 hown hK hP 0 rfl rfl 1 (by decide) (hts (.fieldLink RX6 7 "FeedDeskModel" "s" "[I") (List.mem_of_getElem? (i := 1) rfl)) (fun _ h9 => h9) rfl dX6_tick_156 ?_
                        refine lv_sipush (v := 143) hx hb dX6_tick_159 (by decide) ?_
                        refine lv_dup2_11 hx hb dX6_tick_162 rfl rfl ?_
                        refine va_iald (f := Rn42 0) hx hb hK hP 1 0 rfl rfl (vp_of_B (by decide +kernel : vp_okB (143) 289 = true)) dX6_tick_163 ?_
                        refine lv_eqi (y := Rn42 0 143) rfl ?_
                        refine lv_iload_n hx hb dX6_tick_164 rfl (lv_at hl 2 rfl) ?_
                        refine lv_sipush (v := 9999) hx hb dX6_tick_165 (by decide) ?_
                        refine lv_icmp_le (tgt := 175) hx hb dX6_tick_168 (by decide) (fun c46 => ?_) (fun c46 => ?_)
                        · rw [if_pos c46] at hR
                          refine lv_iconst (v := 0) hx hb dX6_tick_175 (by decide) ?_
                          refine lv_iadd hx hb dX6_tick_176 ?_
                          refine va_iast (f := Rn42 0) hx hb hK hP hD hS 1 0 rfl rfl (vp_of_B (by decide +kernel : vp_okB (143) 289 = true)) dX6_tick_177 (fun H47 locs hP hD hS => ?_)
                          have hP : va_P (dC, dI) vwCl (cMd a cI (sU Rn42 0 143 ((Rn42 0 143) + 0))) H47 := hP
                          have hD : va_D (va_A (cMd a cI R) s.heap.size) (cMd a cI (sU Rn42 0 143 ((Rn42 0 143) + 0))) := hD
                          obtain ⟨Rn48, eRn48⟩ : ∃ z : SR, z = sU Rn42 0 143 ((Rn42 0 143) + 0) := ⟨_, rfl⟩
                          rw [sLet_eq, ← eRn48] at hR
                          rw [← eRn48] at hP hD
                          have hI49 : RA Rn48 := (by rw [eRn48]; exact ra_s hI43 (by decide +kernel))
                          have hs50 : RS Rn48 := (by rw [eRn48]; exact rs_s hs44 (by decide +kernel))
                          have hx51 : FX R Rn48 := (by rw [eRn48]; exact hx45)
                          refine lv_iinc (v := x1_97 + 1) (lv' := [(1, .int (x1_97 + 1)), (0, .ref (a 0)), (2, .int x2_97), (3, .int x3_97)]) hx hb dX6_tick_178 hl (k := 1) rfl rfl (by decide) rfl (fun ls hl => ?_)
                          refine lv_goto (tgt := 88) hx hb dX6_tick_181 (by decide) ?_
                          exact ih_88 (j_88 + 1) (x1_97 + 1) Rn48 (by rw [ex1_97, nI_1]) (by omega) (by omega) hI49 hs50 hx51 hR _ _ _ hP hD hS (lv_sub hl [1, 0] rfl)
                        · rw [if_neg c46] at hR
                          refine lv_iconst (v := 1) hx hb dX6_tick_171 (by decide) ?_
                          refine lv_goto (tgt := 176) hx hb dX6_tick_172 (by decide) ?_
                          refine lv_iadd hx hb dX6_tick_176 ?_
                          refine va_iast (f := Rn42 0) hx hb hK hP hD hS 1 0 rfl rfl (vp_of_B (by decide +kernel : vp_okB (143) 289 = true)) dX6_tick_177 (fun H52 locs hP hD hS => ?_)
                          have hP : va_P (dC, dI) vwCl (cMd a cI (sU Rn42 0 143 ((Rn42 0 143) + 1))) H52 := hP
                          have hD : va_D (va_A (cMd a cI R) s.heap.size) (cMd a cI (sU Rn42 0 143 ((Rn42 0 143) + 1))) := hD
                          obtain ⟨Rn53, eRn53⟩ : ∃ z : SR, z = sU Rn42 0 143 ((Rn42 0 143) + 1) := ⟨_, rfl⟩
                          rw [sLet_eq, ← eRn53] at hR
                          rw [← eRn53] at hP hD
                          have hI54 : RA Rn53 := (by rw [eRn53]; exact ra_s hI43 (by decide +kernel))
                          have hs55 : RS Rn53 := (by rw [eRn53]; exact rs_s hs44 (by decide +kernel))
                          have hx56 : FX R Rn53 := (by rw [eRn53]; exact hx45)
                          refine lv_iinc (v := x1_97 + 1) (lv' := [(1, .int (x1_97 + 1)), (0, .ref (a 0)), (2, .int x2_97), (3, .int x3_97)]) hx hb dX6_tick_178 hl (k := 1) rfl rfl (by decide) rfl (fun ls hl => ?_)
                          refine lv_goto (tgt := 88) hx hb dX6_tick_181 (by decide) ?_
                          exact ih_88 (j_88 + 1) (x1_97 + 1) Rn53 (by rw [ex1_97, nI_1]) (by omega) (by omega) hI54 hs55 hx56 hR _ _ _ hP hD hS (lv_sub hl [1, 0] rfl)
                    · rw [if_neg c23] at hR
                      have hj_97 : j_97 < 12 := lp_ge ex3_97 (by decide +kernel) (by omega) (by omega) c23
                      refine lv_iload_n hx hb dX6_tick_103 rfl (lv_at hl 2 rfl) ?_
                      refine lv_aload_n hx hb dX6_tick_104 rfl (lv_at hl 0 rfl) ?_
                      refine va_get (D := (dC, dI)) (ci := 6) (v := .ref (a 1)) (C := RX6) (T := TX6) (N := 15) hx hb hts hin6 hown hK hP 0 rfl rfl 1 (by decide) (hts (.fieldLink RX6 7 "FeedDeskModel" "s" "[I") (List.mem_of_getElem? (i := 1) rfl)) (fun _ h9 => h9) rfl dX6_tick_105 ?_
                      refine lv_bipush (v := 60) hx hb dX6_tick_108 (by decide) ?_
                      refine lv_iload_n hx hb dX6_tick_110 rfl (lv_at hl 3 rfl) ?_
                      refine lv_iadd hx hb dX6_tick_111 ?_
                      refine va_iald (f := R_97 0) hx hb hK hP 1 0 rfl rfl (by rw [ex3_97]; exact vp_of_B (ix_27 j_97 hj_97)) dX6_tick_112 ?_
                      refine lv_aload_n hx hb dX6_tick_113 rfl (lv_at hl 0 rfl) ?_
                      refine lv_iload_n hx hb dX6_tick_114 rfl (lv_at hl 1 rfl) ?_
                      refine lv_iload_n hx hb dX6_tick_115 rfl (lv_at hl 3 rfl) ?_
                      have hPc : va_P (dC, dI) vwCl (cMd a cI R_97) H := hP.sub [0, 1, 2, 3, 4, 5, 6] rfl
                      have hDc : va_D (va_A (cMd a cI R) s.heap.size) (cMd a cI R_97) := hD.sub [0, 1, 2, 3, 4, 5, 6] (by decide) rfl
                      have hFc : ∀ q : Nat, va_A [] H.size q → (va_A (cMd a cI R) s.heap.size) q := roF hS hA
                      refine va_calli (va_runV (As := [.int x1_97, .int x3_97]) (rest := [.int (R_97 0 (60 + x3_97).toNatClampNeg), .int x2_97]) ⟨hx, hb, hml, hown, hts⟩ (c_X6_gain l dC dI cI cC cS a R_97 H.size x1_97 x3_97 (by rw [ex1_97]; exact vp_of_B (ix_2 j_88 hj_88)) (by rw [ex3_97]; exact vp_of_B (ix_1 j_97 hj_97))) (cwV 2 hts gX6_tick_X6_gain rfl rfl rfl (by decide +kernel) ⟨Nat.le_of_ble_eq_true rfl, Nat.le_of_ble_eq_true rfl⟩) (pV (q0 := 0) hK hPc hDc hN rfl rfl) rfl rfl hl.1 rfl (lv_room (Nat.le_of_ble_eq_true rfl)) dX6_tick_116 ⟨Nat.le_of_ble_eq_true rfl, Nat.le_of_ble_eq_true rfl⟩) hS (fun q _ h => hFc q h) hFc (fun r_57 u_57 t_57 H58 locs ht hvm hw hB hz1 hk1 hS => ?_)
                      subst hw
                      have hP := ro_keep hP hk1
                      refine lv_imul hx hb dX6_tick_119 ?_
                      refine lv_bipush (v := 100) hx hb dX6_tick_120 (by decide) ?_
                      refine lv_idiv hx hb dX6_tick_122 (by decide) ?_
                      refine lv_iadd hx hb dX6_tick_123 ?_
                      refine lv_istore_n (lv' := [(2, .int (x2_97 + (((R_97 0 (60 + x3_97).toNatClampNeg) * (f_X6_gain R_97 x1_97 x3_97)) / 100))), (0, .ref (a 0)), (1, .int x1_97), (3, .int x3_97)]) hx hb dX6_tick_124 rfl hl (by decide) rfl (fun ls hl => ?_)
                      refine lv_iinc (v := x3_97 + 1) (lv' := [(3, .int (x3_97 + 1)), (2, .int (x2_97 + (((R_97 0 (60 + x3_97).toNatClampNeg) * (f_X6_gain R_97 x1_97 x3_97)) / 100))), (0, .ref (a 0)), (1, .int x1_97)]) hx hb dX6_tick_125 hl (k := 3) rfl rfl (by decide) rfl (fun ls hl => ?_)
                      refine lv_goto (tgt := 97) hx hb dX6_tick_128 (by decide) ?_
                      exact ih_97 (j_97 + 1) x1_97 (x2_97 + (((R_97 0 (60 + x3_97).toNatClampNeg) * (f_X6_gain R_97 x1_97 x3_97)) / 100)) (x3_97 + 1) R_97 (by rw [ex3_97, nI_1]) (by omega) (by omega) ex1_97 hI_97 hs_97 hx_97 hR _ _ _ hP hD hS (lv_sub hl [2, 3, 1, 0] rfl)
                exact hL_97 13 0 x1_88 0 0 R_88 (by decide +kernel) (by decide) (by decide) ex1_88 hI_88 hs_88 hx_88 hR _ _ _ hP hD hS (lv_sub hl [2, 3, 1, 0] rfl)
          exact hL_88 5 0 0 R_17 (by decide +kernel) (by decide) (by decide) hI_17 hs_17 hx_17 hR _ _ _ hP hD hS (lv_sub hl [1, 0] rfl)
        · rw [if_neg c1] at hR
          have hj_17 : j_17 < 12 := lp_ge ex1_17 (by decide +kernel) (by omega) (by omega) c1
          refine lv_aload_n hx hb dX6_tick_23 rfl (lv_at hl 0 rfl) ?_
          refine lv_iload_n hx hb dX6_tick_24 rfl (lv_at hl 1 rfl) ?_
          have hPc : va_P (dC, dI) vwCl (cMd a cI R_17) H := hP.sub [0, 1, 2, 3, 4, 5, 6] rfl
          have hDc : va_D (va_A (cMd a cI R) s.heap.size) (cMd a cI R_17) := hD.sub [0, 1, 2, 3, 4, 5, 6] (by decide) rfl
          have hFc : ∀ q : Nat, va_A [] H.size q → (va_A (cMd a cI R) s.heap.size) q := roF hS hA
          refine va_calli (va_runV (As := [.int x1_17]) (rest := []) ⟨hx, hb, hml, hown, hts⟩ (c_X6_backInto l dC dI cI cC cS a R_17 H.size x1_17) (cwV 1 hts gX6_tick_X6_backInto rfl rfl rfl (by decide +kernel) ⟨Nat.le_of_ble_eq_true rfl, Nat.le_of_ble_eq_true rfl⟩) (pV (q0 := 0) hK hPc hDc hN rfl rfl) rfl rfl hl.1 rfl (lv_room (Nat.le_of_ble_eq_true rfl)) dX6_tick_25 ⟨Nat.le_of_ble_eq_true rfl, Nat.le_of_ble_eq_true rfl⟩) hS (fun q _ h => hFc q h) hFc (fun r_59 u_59 t_59 H60 locs ht hvm hw hB hz1 hk1 hS => ?_)
          obtain ⟨hw, hre61⟩ := hw
          subst hw
          have hP := ro_keep hP hk1
          refine lv_istore_n (lv' := [(2, .int (f_X6_backInto R_17 x1_17)), (0, .ref (a 0)), (1, .int x1_17)]) hx hb dX6_tick_28 rfl hl (by decide) rfl (fun ls hl => ?_)
          refine lv_aload_n hx hb dX6_tick_29 rfl (lv_at hl 1 rfl) ?_
          refine lv_iload_n hx hb dX6_tick_30 rfl (lv_at hl 2 rfl) ?_
          refine lv_iconst (v := 0) hx hb dX6_tick_31 (by decide) ?_
          have hPc : va_P (dC, dI) vwCl (cMd a cI R_17) H60 := hP.sub [0, 1, 2, 3, 4, 5, 6] rfl
          have hDc : va_D (va_A (cMd a cI R) s.heap.size) (cMd a cI R_17) := hD.sub [0, 1, 2, 3, 4, 5, 6] (by decide) rfl
          have hFc : ∀ q : Nat, va_A [] H60.size q → (va_A (cMd a cI R) s.heap.size) q := roF hS hA
          refine va_calli (va_runV (As := [.int x1_17, .int 0]) (rest := []) ⟨hx, hb, hml, hown, hts⟩ (c_X6_of l dC dI cI cC cS a R_17 H60.size x1_17 0 (by rw [ex1_17]; exact vp_of_B (ix_1 j_17 hj_17)) (vp_of_B (by decide +kernel : vp_okB (0) 5 = true))) (cwV 2 hts gX6_tick_X6_of rfl rfl rfl (by decide +kernel) ⟨Nat.le_of_ble_eq_true rfl, Nat.le_of_ble_eq_true rfl⟩) (pV (q0 := 0) hK hPc hDc hN rfl rfl) rfl rfl hl.1 rfl (lv_room (Nat.le_of_ble_eq_true rfl)) dX6_tick_32 ⟨Nat.le_of_ble_eq_true rfl, Nat.le_of_ble_eq_true rfl⟩) hS (fun q _ h => hFc q h) hFc (fun r_62 u_62 t_62 H63 locs ht hvm hw hB hz1 hk1 hS => ?_)
          subst hw
          have hP := ro_keep hP hk1
          refine lv_iload_n hx hb dX6_tick_35 rfl (lv_at hl 0 rfl) ?_
          refine lv_bipush (v := (-99)) hx hb dX6_tick_36 (by decide) ?_
          have hJ_55 : ∀ (x1_55 : Int32) (s0_55 : Int32) (s1_55 : Int32) (R_55 : SR), x1_55 = nI j_17 → RA R_55 → RS R_55 → FX R R_55 → R0 = f_X6_tick_p55 (f_X6_tick_p17 n_17) x1_55 s0_55 s1_55 R_55 → ∀ (H : Heap) (locs : List Loc) (ls : Array Slot), va_P (dC, dI) vwCl (cMd a cI R_55) H → va_D (va_A (cMd a cI R) s.heap.size) (cMd a cI R_55) → va_S (va_A (cMd a cI R) s.heap.size) s.heap H locs → lv_has ls 4 [(0, .ref (a 0)), (1, .int x1_55)] → W p l e (headSpec wsX6_tick rm_X6_tick).room s m ([.ref (a 0)] : List Value).toArray below meth c H locs 0 0 (MQ below (va_Qv (fun (u : SR) => u = f_X6_tick R ∧ (RA u) ∧ (RS u) ∧ (FX R u)) (fun u U => va_P (dC, dI) vwCl (cMd a cI u) U.heap ∧ va_D (va_A (cMd a cI R) s.heap.size) (cMd a cI u)) (va_A (cMd a cI R) s.heap.size)) ([.ref (a 0)] : List Value).toArray s 0 0 (va_A (cMd a cI R) s.heap.size)) (F0 m 55 ls [.int s0_55, .int s1_55]) := by
            intro x1_55 s0_55 s1_55 R_55 ex1_55 hI_55 hs_55 hx_55 hR H locs ls hP hD hS hl
            rw [f_X6_tick_p55] at hR
            refine lv_iadd hx hb dX6_tick_55 ?_
            refine lv_istore_n (lv' := [(3, .int (s1_55 + s0_55)), (0, .ref (a 0)), (1, .int x1_55)]) hx hb dX6_tick_56 rfl hl (by decide) rfl (fun ls hl => ?_)
            refine lv_aload_n hx hb dX6_tick_57 rfl (lv_at hl 1 rfl) ?_
            refine va_get (D := (dC, dI)) (ci := 6) (v := .ref (a 1)) (C := RX6) (T := TX6) (N := 15) hx hb hts hin6 hown hK hP 0 rfl rfl 1 (by decide) (hts (.fieldLink RX6 7 "FeedDeskModel" "s" "[I") (List.mem_of_getElem? (i := 1) rfl)) (fun _ h9 => h9) rfl dX6_tick_58 ?_
            refine lv_bipush (v := 60) hx hb dX6_tick_61 (by decide) ?_
            refine lv_iload_n hx hb dX6_tick_63 rfl (lv_at hl 2 rfl) ?_
            refine lv_iadd hx hb dX6_tick_64 ?_
            refine lv_iload_n hx hb dX6_tick_65 rfl (lv_at hl 0 rfl) ?_
            refine lv_sipush (v := 9999) hx hb dX6_tick_66 (by decide) ?_
            refine lv_icmp_le (tgt := 78) hx hb dX6_tick_69 (by decide) (fun c64 => ?_) (fun c64 => ?_)
            · rw [if_pos c64] at hR
              refine lv_iload_n hx hb dX6_tick_78 rfl (lv_at hl 0 rfl) ?_
              refine va_iast (f := R_55 0) hx hb hK hP hD hS 1 0 rfl rfl (by rw [ex1_55]; exact vp_of_B (ix_27 j_17 hj_17)) dX6_tick_79 (fun H65 locs hP hD hS => ?_)
              have hP : va_P (dC, dI) vwCl (cMd a cI (sU R_55 0 (60 + x1_55).toNatClampNeg (s1_55 + s0_55))) H65 := hP
              have hD : va_D (va_A (cMd a cI R) s.heap.size) (cMd a cI (sU R_55 0 (60 + x1_55).toNatClampNeg (s1_55 + s0_55))) := hD
              obtain ⟨Rn66, eRn66⟩ : ∃ z : SR, z = sU R_55 0 (60 + x1_55).toNatClampNeg (s1_55 + s0_55) := ⟨_, rfl⟩
              rw [sLet_eq, ← eRn66] at hR
              rw [← eRn66] at hP hD
              have hI67 : RA Rn66 := (by rw [eRn66]; exact ra_s hI_55 (by rw [ex1_55]; exact ok_31 j_17 hj_17))
              have hs68 : RS Rn66 := (by rw [eRn66]; exact rs_s hs_55 (by rw [ex1_55]; exact ok_32 j_17 hj_17))
              have hx69 : FX R Rn66 := (by rw [eRn66]; exact hx_55)
              refine lv_iinc (v := x1_55 + 1) (lv' := [(1, .int (x1_55 + 1)), (3, .int (s1_55 + s0_55)), (0, .ref (a 0))]) hx hb dX6_tick_80 hl (k := 2) rfl rfl (by decide) rfl (fun ls hl => ?_)
              refine lv_goto (tgt := 17) hx hb dX6_tick_83 (by decide) ?_
              exact ih_17 (j_17 + 1) (x1_55 + 1) Rn66 (by rw [ex1_55, nI_1]) (by omega) (by omega) hI67 hs68 hx69 hR _ _ _ hP hD hS (lv_sub hl [2, 0] rfl)
            · rw [if_neg c64] at hR
              refine lv_sipush (v := 9999) hx hb dX6_tick_72 (by decide) ?_
              refine lv_goto (tgt := 79) hx hb dX6_tick_75 (by decide) ?_
              refine va_iast (f := R_55 0) hx hb hK hP hD hS 1 0 rfl rfl (by rw [ex1_55]; exact vp_of_B (ix_27 j_17 hj_17)) dX6_tick_79 (fun H70 locs hP hD hS => ?_)
              have hP : va_P (dC, dI) vwCl (cMd a cI (sU R_55 0 (60 + x1_55).toNatClampNeg 9999)) H70 := hP
              have hD : va_D (va_A (cMd a cI R) s.heap.size) (cMd a cI (sU R_55 0 (60 + x1_55).toNatClampNeg 9999)) := hD
              obtain ⟨Rn71, eRn71⟩ : ∃ z : SR, z = sU R_55 0 (60 + x1_55).toNatClampNeg 9999 := ⟨_, rfl⟩
              rw [sLet_eq, ← eRn71] at hR
              rw [← eRn71] at hP hD
              have hI72 : RA Rn71 := (by rw [eRn71]; exact ra_s hI_55 (by rw [ex1_55]; exact ok_31 j_17 hj_17))
              have hs73 : RS Rn71 := (by rw [eRn71]; exact rs_s hs_55 (by rw [ex1_55]; exact ok_32 j_17 hj_17))
              have hx74 : FX R Rn71 := (by rw [eRn71]; exact hx_55)
              refine lv_iinc (v := x1_55 + 1) (lv' := [(1, .int (x1_55 + 1)), (3, .int (s1_55 + s0_55)), (0, .ref (a 0))]) hx hb dX6_tick_80 hl (k := 2) rfl rfl (by decide) rfl (fun ls hl => ?_)
              refine lv_goto (tgt := 17) hx hb dX6_tick_83 (by decide) ?_
              exact ih_17 (j_17 + 1) (x1_55 + 1) Rn71 (by rw [ex1_55, nI_1]) (by omega) (by omega) hI72 hs73 hx74 hR _ _ _ hP hD hS (lv_sub hl [2, 0] rfl)
          refine lv_icmp_ne (tgt := 45) hx hb dX6_tick_38 (by decide) (fun c75 => ?_) (fun c75 => ?_)
          · rw [if_neg c75] at hR
            refine lv_aload_n hx hb dX6_tick_45 rfl (lv_at hl 1 rfl) ?_
            refine va_get (D := (dC, dI)) (ci := 6) (v := .ref (a 1)) (C := RX6) (T := TX6) (N := 15) hx hb hts hin6 hown hK hP 0 rfl rfl 1 (by decide) (hts (.fieldLink RX6 7 "FeedDeskModel" "s" "[I") (List.mem_of_getElem? (i := 1) rfl)) (fun _ h9 => h9) rfl dX6_tick_46 ?_
            refine lv_sipush (v := 136) hx hb dX6_tick_49 (by decide) ?_
            refine lv_iload_n hx hb dX6_tick_52 rfl (lv_at hl 0 rfl) ?_
            refine lv_iadd hx hb dX6_tick_53 ?_
            refine va_iald (f := R_17 0) hx hb hK hP 1 0 rfl rfl (out_in hre61 c75) dX6_tick_54 ?_
            exact hJ_55 x1_17 (R_17 0 (136 + (f_X6_backInto R_17 x1_17)).toNatClampNeg) (f_X6_of R_17 x1_17 0) R_17 ex1_17 hI_17 hs_17 hx_17 hR _ _ _ hP hD hS (lv_sub hl [1, 2] rfl)
          · rw [if_pos c75] at hR
            refine lv_iconst (v := 0) hx hb dX6_tick_41 (by decide) ?_
            refine lv_goto (tgt := 55) hx hb dX6_tick_42 (by decide) ?_
            exact hJ_55 x1_17 0 (f_X6_of R_17 x1_17 0) R_17 ex1_17 hI_17 hs_17 hx_17 hR _ _ _ hP hD hS (lv_sub hl [1, 2] rfl)
    exact hL_17 13 0 0 R_15 (by decide +kernel) (by decide) (by decide) hI_15 hs_15 hx_15 hR _ _ _ hP hD hS (lv_sub hl [1, 0] rfl)
  refine lv_if_lt (tgt := 15) hx hb dX6_tick_8 (by decide) (fun c76 => ?_) (fun c76 => ?_)
  · rw [if_pos c76] at hR
    exact hJ_15 R hI hs hx_0 hR _ _ _ hP hD hS (lv_sub hl [0] rfl)
  · rw [if_neg c76] at hR
    refine lv_aload_n hx hb dX6_tick_11 rfl (lv_at hl 0 rfl) ?_
    have hPc : va_P (dC, dI) vwCl (cMd a cI R) s.heap := hP.sub [0, 1, 2, 3, 4, 5, 6] rfl
    have hDc : va_D (va_A (cMd a cI R) s.heap.size) (cMd a cI R) := hD.sub [0, 1, 2, 3, 4, 5, 6] (by decide) rfl
    have hFc : ∀ q : Nat, va_A (cMd a cI R) s.heap.size q → (va_A (cMd a cI R) s.heap.size) q := va_free hD hS hA [0, 1, 2, 3, 4, 5, 6] rfl
    refine va_callv (va_runV (As := []) (rest := []) ⟨hx, hb, hml, hown, hts⟩ (c_X6_fade l dC dI cI cC cS a R s.heap.size hI (hs (Int32.not_lt.mp c76))) (cwV 0 hts gX6_tick_X6_fade rfl rfl rfl (by decide +kernel) ⟨Nat.le_of_ble_eq_true rfl, Nat.le_of_ble_eq_true rfl⟩) (pV (q0 := 0) hK hPc hDc hN rfl rfl) rfl rfl hl.1 rfl (lv_room (Nat.le_of_ble_eq_true rfl)) dX6_tick_12 ⟨Nat.le_of_ble_eq_true rfl, Nat.le_of_ble_eq_true rfl⟩) hS (fun q _ h => hFc q h) hFc (fun u_77 t_77 H78 locs ht hvm hw hB hz1 hk1 hS => ?_)
    obtain ⟨hw, hens79, hens80, hens81⟩ := hw
    obtain ⟨hP1, hD1⟩ := hB
    rw [ht] at hP1
    subst hw
    obtain ⟨hP, hD⟩ := va_join (wc := cMd a cI R) (wr := []) (w1 := cMd a cI (f_X6_fade R)) hP hD [0, 1, 2, 3, 4, 5, 6] [] rfl rfl (by decide) (by decide) hk1 hFc hP1 hD1
    have hP : va_P (dC, dI) vwCl (cMd a cI (f_X6_fade R)) H78 := hP.sub [0, 1, 2, 3, 4, 5, 6] rfl
    have hD : va_D (va_A (cMd a cI R) s.heap.size) (cMd a cI (f_X6_fade R)) := hD.sub [0, 1, 2, 3, 4, 5, 6] (by decide) rfl
    obtain ⟨Rn82, eRn82⟩ : ∃ z : SR, z = (f_X6_fade R) := ⟨_, rfl⟩
    rw [sLet_eq, ← eRn82] at hR
    rw [← eRn82] at hP hD
    have hI83 : RA Rn82 := by rw [eRn82]; exact hens79
    have hs84 : RS Rn82 := (by rw [eRn82]; exact rs_n hens80)
    have hx85 : FX R Rn82 := by rw [eRn82]; exact hens81
    exact hJ_15 Rn82 hI83 hs84 hx85 hR _ _ _ hP hD hS (lv_sub hl [0] rfl)
abbrev rm_X6_setByHand : Room := { frames := 0, cells := 0, slots := 0, locals := 0 }
def f_X6_setByHand (R : SR) (p1 : Int32) (p2 : Int32) (p3 : Int32) : SR := sLet (sU R 0 ((5 * p1) + p2).toNatClampNeg p3) (fun Rn2 : SR => (if (Rn2 0 144) < 0 then sLet (sU Rn2 0 179 ((Rn2 0 179) ||| 0)) (fun Rn10 : SR => Rn10) else (if p2 = 1 then sLet (sU Rn2 0 179 ((Rn2 0 179) ||| (1 <<< (p1 &&& 31)))) (fun Rn18 : SR => Rn18) else (if p2 = 2 then sLet (sU Rn2 0 179 ((Rn2 0 179) ||| (1 <<< (p1 &&& 31)))) (fun Rn33 : SR => Rn33) else sLet (sU Rn2 0 179 ((Rn2 0 179) ||| 0)) (fun Rn26 : SR => Rn26)))))
theorem ok_33 : ∀ q0 : Nat, q0 < 12 → ∀ q1 : Nat, q1 < 5 → okR ((5 * (nI q0)) + (nI q1)).toNatClampNeg = true := by decide +kernel
theorem ok_34 : ∀ q0 : Nat, q0 < 12 → ∀ q1 : Nat, q1 < 5 → okT ((5 * (nI q0)) + (nI q1)).toNatClampNeg = true := by decide +kernel
set_option maxHeartbeats 4000000 in
set_option maxRecDepth 100000 in
theorem c_X6_setByHand (l : Launch) (dC : Nat → ClassId) (dI : Nat → Nat → Nat) (cI cC cS : ClassId) (a : Nat → Nat) (R : SR) (sz : Nat) (p1 : Int32) (p2 : Int32) (p3 : Int32) (h1 : vp_in p1 12) (h2 : vp_in p2 5) (hI : RA R) (hs : RS R) : Met l yX6_setByHand wsX6_setByHand rm_X6_setByHand (PcG (dC, dI) (tyL cI cC cS) (cMd a cI R) sz [.ref (a 0), .int p1, .int p2, .int p3]) (va_Qv (fun (u : SR) => u = f_X6_setByHand R p1 p2 p3 ∧ (RA u) ∧ (RS u) ∧ (FX R u) ∧ (u 3 = R 3) ∧ (u 6 = R 6)) (fun u U => va_P (dC, dI) vwCl (cMd a cI u) U.heap ∧ va_D (va_A (cMd a cI R) sz) (cMd a cI u)) (va_A (cMd a cI R) sz)) 0 0 (va_A (cMd a cI R) sz) := by
  refine Met.ofW (cc := cX6_setByHand) (maxL := 4) (ret := none) (by decide) rfl ?_
  intro p e s m args below meth c s₁ B hml hv
  obtain ⟨rfl, hsz, hP, hK, hD0, hN⟩ := hv
  have hx := B.exec
  have hb := B.bytes
  have hr := B.returns
  have hts := atoms_spec (ws := wsX6_setByHand) B.pre
  have hown : s.vm.findClass RX6 = some m.cls := findClass_of_methodNamed B.named
  have hlocks := B.notSynchronized
  subst hsz
  have hD := hD0.self (sz := s.heap.size)
  have hA : ∀ q : Nat, s.heap.size ≤ q → (va_A (cMd a cI R) s.heap.size) q := fun q h => Or.inr h
  have hS : va_S (va_A (cMd a cI R) s.heap.size) s.heap s.heap [] := va_S.rf
  have hin6 : ∀ w ∈ wsX60, w ∈ wsX6_setByHand := fun _ h => List.mem_cons_of_mem _ (List.mem_append_right _ h)
  obtain ⟨ip1, hip1, ep1⟩ := vp_in_of h1 (by decide)
  obtain ⟨ip2, hip2, ep2⟩ := vp_in_of h2 (by decide)
  have hx_0 : FX R R := fx_rf
  have h3r_0 : R 3 = R 3 := rfl
  have h6r_0 : R 6 = R 6 := rfl
  have hl := lv_entry [.ref (a 0), .int p1, .int p2, .int p3] (n := 4) (Nat.le_of_ble_eq_true rfl)
  rw [lg_entry_eq]
  generalize (lg_sl [.ref (a 0), .int p1, .int p2, .int p3] ++ List.replicate (4 - (lg_sl [.ref (a 0), .int p1, .int p2, .int p3]).length) Slot.unset).toArray = ls at hl ⊢
  have hl : lv_has ls 4 [(0, .ref (a 0)), (1, .int p1), (2, .int p2), (3, .int p3)] := hl
  obtain ⟨R0, eR⟩ : ∃ z, z = f_X6_setByHand R p1 p2 p3 := ⟨_, rfl⟩
  have hR := eR
  rw [f_X6_setByHand] at hR
  refine lv_aload_n hx hb dX6_setByHand_0 rfl (lv_at hl 0 rfl) ?_
  refine va_get (D := (dC, dI)) (ci := 6) (v := .ref (a 1)) (C := RX6) (T := TX6) (N := 15) hx hb hts hin6 hown hK hP 0 rfl rfl 1 (by decide) (hts (.fieldLink RX6 7 "FeedDeskModel" "s" "[I") (List.mem_of_getElem? (i := 1) rfl)) (fun _ h9 => h9) rfl dX6_setByHand_1 ?_
  refine lv_iconst (v := 5) hx hb dX6_setByHand_4 (by decide) ?_
  refine lv_iload_n hx hb dX6_setByHand_5 rfl (lv_at hl 1 rfl) ?_
  refine lv_imul hx hb dX6_setByHand_6 ?_
  refine lv_iload_n hx hb dX6_setByHand_7 rfl (lv_at hl 2 rfl) ?_
  refine lv_iadd hx hb dX6_setByHand_8 ?_
  refine lv_iload_n hx hb dX6_setByHand_9 rfl (lv_at hl 3 rfl) ?_
  refine va_iast (f := R 0) hx hb hK hP hD hS 1 0 rfl rfl (by rw [ep1, ep2]; exact vp_of_B (ix_11 ip1 hip1 ip2 hip2)) dX6_setByHand_10 (fun H1 locs hP hD hS => ?_)
  have hP : va_P (dC, dI) vwCl (cMd a cI (sU R 0 ((5 * p1) + p2).toNatClampNeg p3)) H1 := hP
  have hD : va_D (va_A (cMd a cI R) s.heap.size) (cMd a cI (sU R 0 ((5 * p1) + p2).toNatClampNeg p3)) := hD
  obtain ⟨Rn2, eRn2⟩ : ∃ z : SR, z = sU R 0 ((5 * p1) + p2).toNatClampNeg p3 := ⟨_, rfl⟩
  rw [sLet_eq, ← eRn2] at hR
  rw [← eRn2] at hP hD
  have hI3 : RA Rn2 := (by rw [eRn2]; exact ra_s hI (by rw [ep1, ep2]; exact ok_33 ip1 hip1 ip2 hip2))
  have hs4 : RS Rn2 := (by rw [eRn2]; exact rs_s hs (by rw [ep1, ep2]; exact ok_34 ip1 hip1 ip2 hip2))
  have hx5 : FX R Rn2 := (by rw [eRn2]; exact hx_0)
  have h3r6 : Rn2 3 = R 3 := (by rw [eRn2]; exact h3r_0)
  have h6r7 : Rn2 6 = R 6 := (by rw [eRn2]; exact h6r_0)
  refine lv_aload_n hx hb dX6_setByHand_11 rfl (lv_at hl 0 rfl) ?_
  refine va_get (D := (dC, dI)) (ci := 6) (v := .ref (a 1)) (C := RX6) (T := TX6) (N := 15) hx hb hts hin6 hown hK hP 0 rfl rfl 1 (by decide) (hts (.fieldLink RX6 7 "FeedDeskModel" "s" "[I") (List.mem_of_getElem? (i := 1) rfl)) (fun _ h9 => h9) rfl dX6_setByHand_12 ?_
  refine lv_sipush (v := 179) hx hb dX6_setByHand_15 (by decide) ?_
  refine lv_dup2_11 hx hb dX6_setByHand_18 rfl rfl ?_
  refine va_iald (f := Rn2 0) hx hb hK hP 1 0 rfl rfl (vp_of_B (by decide +kernel : vp_okB (179) 289 = true)) dX6_setByHand_19 ?_
  refine lv_eqi (y := Rn2 0 179) rfl ?_
  refine lv_aload_n hx hb dX6_setByHand_20 rfl (lv_at hl 0 rfl) ?_
  refine va_get (D := (dC, dI)) (ci := 6) (v := .ref (a 1)) (C := RX6) (T := TX6) (N := 15) hx hb hts hin6 hown hK hP 0 rfl rfl 1 (by decide) (hts (.fieldLink RX6 7 "FeedDeskModel" "s" "[I") (List.mem_of_getElem? (i := 1) rfl)) (fun _ h9 => h9) rfl dX6_setByHand_21 ?_
  refine lv_sipush (v := 144) hx hb dX6_setByHand_24 (by decide) ?_
  refine va_iald (f := Rn2 0) hx hb hK hP 1 0 rfl rfl (vp_of_B (by decide +kernel : vp_okB (144) 289 = true)) dX6_setByHand_27 ?_
  refine lv_eqi (y := Rn2 0 144) rfl ?_
  refine lv_if_lt (tgt := 47) hx hb dX6_setByHand_28 (by decide) (fun c8 => ?_) (fun c8 => ?_)
  · rw [if_pos c8] at hR
    refine lv_iconst (v := 0) hx hb dX6_setByHand_47 (by decide) ?_
    refine lv_ior hx hb dX6_setByHand_48 ?_
    refine va_iast (f := Rn2 0) hx hb hK hP hD hS 1 0 rfl rfl (vp_of_B (by decide +kernel : vp_okB (179) 289 = true)) dX6_setByHand_49 (fun H9 locs hP hD hS => ?_)
    have hP : va_P (dC, dI) vwCl (cMd a cI (sU Rn2 0 179 ((Rn2 0 179) ||| 0))) H9 := hP
    have hD : va_D (va_A (cMd a cI R) s.heap.size) (cMd a cI (sU Rn2 0 179 ((Rn2 0 179) ||| 0))) := hD
    obtain ⟨Rn10, eRn10⟩ : ∃ z : SR, z = sU Rn2 0 179 ((Rn2 0 179) ||| 0) := ⟨_, rfl⟩
    rw [sLet_eq, ← eRn10] at hR
    rw [← eRn10] at hP hD
    have hI11 : RA Rn10 := (by rw [eRn10]; exact ra_s hI3 (by decide +kernel))
    have hs12 : RS Rn10 := (by rw [eRn10]; exact rs_s hs4 (by decide +kernel))
    have hx13 : FX R Rn10 := (by rw [eRn10]; exact hx5)
    have h3r14 : Rn10 3 = R 3 := (by rw [eRn10]; exact h3r6)
    have h6r15 : Rn10 6 = R 6 := (by rw [eRn10]; exact h6r7)
    exact W.vret hx hb hr (fun t ht hWw => ⟨⟨Rn10, rfl, ⟨hR.symm.trans eR, hI11, hs12, hx13, h3r14, h6r15⟩, by rw [ht]; exact hP, hD⟩, hS.F ht⟩) hS.2.2 dX6_setByHand_50
  · rw [if_neg c8] at hR
    refine lv_iload_n hx hb dX6_setByHand_31 rfl (lv_at hl 2 rfl) ?_
    refine lv_iconst (v := 1) hx hb dX6_setByHand_32 (by decide) ?_
    refine lv_icmp_eq (tgt := 41) hx hb dX6_setByHand_33 (by decide) (fun c16 => ?_) (fun c16 => ?_)
    · rw [if_pos c16] at hR
      refine lv_iconst (v := 1) hx hb dX6_setByHand_41 (by decide) ?_
      refine lv_iload_n hx hb dX6_setByHand_42 rfl (lv_at hl 1 rfl) ?_
      refine lv_ishl hx hb dX6_setByHand_43 ?_
      refine lv_goto (tgt := 48) hx hb dX6_setByHand_44 (by decide) ?_
      refine lv_ior hx hb dX6_setByHand_48 ?_
      refine va_iast (f := Rn2 0) hx hb hK hP hD hS 1 0 rfl rfl (vp_of_B (by decide +kernel : vp_okB (179) 289 = true)) dX6_setByHand_49 (fun H17 locs hP hD hS => ?_)
      have hP : va_P (dC, dI) vwCl (cMd a cI (sU Rn2 0 179 ((Rn2 0 179) ||| (1 <<< (p1 &&& 31))))) H17 := hP
      have hD : va_D (va_A (cMd a cI R) s.heap.size) (cMd a cI (sU Rn2 0 179 ((Rn2 0 179) ||| (1 <<< (p1 &&& 31))))) := hD
      obtain ⟨Rn18, eRn18⟩ : ∃ z : SR, z = sU Rn2 0 179 ((Rn2 0 179) ||| (1 <<< (p1 &&& 31))) := ⟨_, rfl⟩
      rw [sLet_eq, ← eRn18] at hR
      rw [← eRn18] at hP hD
      have hI19 : RA Rn18 := (by rw [eRn18]; exact ra_s hI3 (by decide +kernel))
      have hs20 : RS Rn18 := (by rw [eRn18]; exact rs_s hs4 (by decide +kernel))
      have hx21 : FX R Rn18 := (by rw [eRn18]; exact hx5)
      have h3r22 : Rn18 3 = R 3 := (by rw [eRn18]; exact h3r6)
      have h6r23 : Rn18 6 = R 6 := (by rw [eRn18]; exact h6r7)
      exact W.vret hx hb hr (fun t ht hWw => ⟨⟨Rn18, rfl, ⟨hR.symm.trans eR, hI19, hs20, hx21, h3r22, h6r23⟩, by rw [ht]; exact hP, hD⟩, hS.F ht⟩) hS.2.2 dX6_setByHand_50
    · rw [if_neg c16] at hR
      refine lv_iload_n hx hb dX6_setByHand_36 rfl (lv_at hl 2 rfl) ?_
      refine lv_iconst (v := 2) hx hb dX6_setByHand_37 (by decide) ?_
      refine lv_icmp_ne (tgt := 47) hx hb dX6_setByHand_38 (by decide) (fun c24 => ?_) (fun c24 => ?_)
      · rw [if_neg c24] at hR
        refine lv_iconst (v := 0) hx hb dX6_setByHand_47 (by decide) ?_
        refine lv_ior hx hb dX6_setByHand_48 ?_
        refine va_iast (f := Rn2 0) hx hb hK hP hD hS 1 0 rfl rfl (vp_of_B (by decide +kernel : vp_okB (179) 289 = true)) dX6_setByHand_49 (fun H25 locs hP hD hS => ?_)
        have hP : va_P (dC, dI) vwCl (cMd a cI (sU Rn2 0 179 ((Rn2 0 179) ||| 0))) H25 := hP
        have hD : va_D (va_A (cMd a cI R) s.heap.size) (cMd a cI (sU Rn2 0 179 ((Rn2 0 179) ||| 0))) := hD
        obtain ⟨Rn26, eRn26⟩ : ∃ z : SR, z = sU Rn2 0 179 ((Rn2 0 179) ||| 0) := ⟨_, rfl⟩
        rw [sLet_eq, ← eRn26] at hR
        rw [← eRn26] at hP hD
        have hI27 : RA Rn26 := (by rw [eRn26]; exact ra_s hI3 (by decide +kernel))
        have hs28 : RS Rn26 := (by rw [eRn26]; exact rs_s hs4 (by decide +kernel))
        have hx29 : FX R Rn26 := (by rw [eRn26]; exact hx5)
        have h3r30 : Rn26 3 = R 3 := (by rw [eRn26]; exact h3r6)
        have h6r31 : Rn26 6 = R 6 := (by rw [eRn26]; exact h6r7)
        exact W.vret hx hb hr (fun t ht hWw => ⟨⟨Rn26, rfl, ⟨hR.symm.trans eR, hI27, hs28, hx29, h3r30, h6r31⟩, by rw [ht]; exact hP, hD⟩, hS.F ht⟩) hS.2.2 dX6_setByHand_50
      · rw [if_pos c24] at hR
        refine lv_iconst (v := 1) hx hb dX6_setByHand_41 (by decide) ?_
        refine lv_iload_n hx hb dX6_setByHand_42 rfl (lv_at hl 1 rfl) ?_
        refine lv_ishl hx hb dX6_setByHand_43 ?_
        refine lv_goto (tgt := 48) hx hb dX6_setByHand_44 (by decide) ?_
        refine lv_ior hx hb dX6_setByHand_48 ?_
        refine va_iast (f := Rn2 0) hx hb hK hP hD hS 1 0 rfl rfl (vp_of_B (by decide +kernel : vp_okB (179) 289 = true)) dX6_setByHand_49 (fun H32 locs hP hD hS => ?_)
        have hP : va_P (dC, dI) vwCl (cMd a cI (sU Rn2 0 179 ((Rn2 0 179) ||| (1 <<< (p1 &&& 31))))) H32 := hP
        have hD : va_D (va_A (cMd a cI R) s.heap.size) (cMd a cI (sU Rn2 0 179 ((Rn2 0 179) ||| (1 <<< (p1 &&& 31))))) := hD
        obtain ⟨Rn33, eRn33⟩ : ∃ z : SR, z = sU Rn2 0 179 ((Rn2 0 179) ||| (1 <<< (p1 &&& 31))) := ⟨_, rfl⟩
        rw [sLet_eq, ← eRn33] at hR
        rw [← eRn33] at hP hD
        have hI34 : RA Rn33 := (by rw [eRn33]; exact ra_s hI3 (by decide +kernel))
        have hs35 : RS Rn33 := (by rw [eRn33]; exact rs_s hs4 (by decide +kernel))
        have hx36 : FX R Rn33 := (by rw [eRn33]; exact hx5)
        have h3r37 : Rn33 3 = R 3 := (by rw [eRn33]; exact h3r6)
        have h6r38 : Rn33 6 = R 6 := (by rw [eRn33]; exact h6r7)
        exact W.vret hx hb hr (fun t ht hWw => ⟨⟨Rn33, rfl, ⟨hR.symm.trans eR, hI34, hs35, hx36, h3r37, h6r38⟩, by rw [ht]; exact hP, hD⟩, hS.F ht⟩) hS.2.2 dX6_setByHand_50
