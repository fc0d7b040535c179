abbrev rm_X6_store : Room := { frames := 2, cells := 0, slots := 0, locals := 44 }
def f_X6_store_p36 (p1 : Int32)  : Nat → Int32 → Int32 → SR → (Int32 × SR)
  | 0, _, _, R_36 => (0, R_36)
  | n_36 + 1, x2_36, x3_36, R_36 => (if 16 ≤ x3_36 then sLet (sU R_36 0 (x2_36 + 17).toNatClampNeg (f_X6_muted R_36)) (fun Rn30 : SR => (f_X6_scenes Rn30, Rn30)) else sLet (sU R_36 0 ((x2_36 + 1) + x3_36).toNatClampNeg (R_36 0 (f_X6_at x3_36).toNatClampNeg)) (fun Rn39 : SR => (f_X6_store_p36 p1 n_36) x2_36 (x3_36 + 1) Rn39))
def f_X6_store (R : SR) (p1 : Int32) : Int32 × SR := sLet (sU R 6 0 0) (fun Rn2 : SR => (if (f_X6_isScene p1) = 0 then ((-1), Rn2) else sLet ((f_X6_act Rn2)) (fun Rn17 : SR => sLet (sU Rn17 0 (181 + (18 * p1)).toNatClampNeg 1) (fun Rn22 : SR => f_X6_store_p36 p1 17 (181 + (18 * p1)) 0 Rn22))))
theorem ok_48 : ∀ q0 : Nat, q0 < 6 → okR (181 + (18 * (nI q0))).toNatClampNeg = true := by decide +kernel
theorem ok_49 : ∀ q0 : Nat, q0 < 6 → okT (181 + (18 * (nI q0))).toNatClampNeg = true := by decide +kernel
theorem ix_50 : ∀ q0 : Nat, q0 < 91 → vp_okB ((nI (181 + q0)) + 17) 289 = true := by decide +kernel
theorem ok_51 : ∀ q0 : Nat, q0 < 91 → okR ((nI (181 + q0)) + 17).toNatClampNeg = true := by decide +kernel
theorem ok_52 : ∀ q0 : Nat, q0 < 91 → okT ((nI (181 + q0)) + 17).toNatClampNeg = true := by decide +kernel
theorem ix_53 : ∀ q0 : Nat, q0 < 91 → ∀ q1 : Nat, q1 < 16 → vp_okB (((nI (181 + q0)) + 1) + (nI q1)) 289 = true := by decide +kernel
theorem ok_54 : ∀ q0 : Nat, q0 < 91 → ∀ q1 : Nat, q1 < 16 → okR (((nI (181 + q0)) + 1) + (nI q1)).toNatClampNeg = true := by decide +kernel
theorem ok_55 : ∀ q0 : Nat, q0 < 91 → ∀ q1 : Nat, q1 < 16 → okT (((nI (181 + q0)) + 1) + (nI q1)).toNatClampNeg = true := by decide +kernel
set_option maxHeartbeats 4000000 in
set_option maxRecDepth 100000 in
theorem c_X6_store (l : Launch) (dC : Nat → ClassId) (dI : Nat → Nat → Nat) (cI cC cS : ClassId) (a : Nat → Nat) (R : SR) (sz : Nat) (p1 : Int32) (ohv : vp_in (R 6 1) 6) (hI : RA R) (hs : RS R) : Met l yX6_store wsX6_store rm_X6_store (PcG (dC, dI) (tyL cI cC cS) (cMd a cI R) sz [.ref (a 0), .int p1]) (va_Qi (fun (r : Int32) (u : SR) => (r, u) = f_X6_store R p1 ∧ (RA u) ∧ (RS u)) (fun u U => va_P (dC, dI) vwCl (cMd a cI u) U.heap ∧ va_D (va_A (cMd a cI R) sz) (cMd a cI u)) (va_A (cMd a cI R) sz)) 0 0 (va_A (cMd a cI R) sz) := by
  refine Met.ofW (cc := cX6_store) (maxL := 4) (ret := (some .int)) (by decide) rfl ?_
  intro p e s m args below meth c s₁ B hml hv
  obtain ⟨rfl, hsz, hP, hK, hD0, hN⟩ := hv
  have hx := B.exec
  have hb := B.bytes
  have hr := B.returns
  have hts := atoms_spec (ws := wsX6_store) B.pre
  have hown : s.vm.findClass RX6 = some m.cls := findClass_of_methodNamed B.named
  have hlocks := B.notSynchronized
  subst hsz
  have hD := hD0.self (sz := s.heap.size)
  have hA : ∀ q : Nat, s.heap.size ≤ q → (va_A (cMd a cI R) s.heap.size) q := fun q h => Or.inr h
  have hS : va_S (va_A (cMd a cI R) s.heap.size) s.heap s.heap [] := va_S.rf
  have hin6 : ∀ w ∈ wsX60, w ∈ wsX6_store := fun _ h => List.mem_cons_of_mem _ (List.mem_append_right _ h)
  have hl := lv_entry [.ref (a 0), .int p1] (n := 4) (Nat.le_of_ble_eq_true rfl)
  rw [lg_entry_eq]
  generalize (lg_sl [.ref (a 0), .int p1] ++ List.replicate (4 - (lg_sl [.ref (a 0), .int p1]).length) Slot.unset).toArray = ls at hl ⊢
  have hl : lv_has ls 4 [(0, .ref (a 0)), (1, .int p1)] := hl
  obtain ⟨R0, eR⟩ : ∃ z, z = f_X6_store R p1 := ⟨_, rfl⟩
  have hR := eR
  rw [f_X6_store] at hR
  refine lv_aload_n hx hb dX6_store_0 rfl (lv_at hl 0 rfl) ?_
  refine lv_iconst (v := 0) hx hb dX6_store_1 (by decide) ?_
  refine va_put (D := (dC, dI)) (ci := 6) (v := .int 0) (ty := .int) (C := RX6) (T := TX6) (N := 15) hx hb hts hin6 tyX6 tyX6_ok nmX6 hown hK hP hD hS 0 rfl rfl 0 (by decide) (hts (.fieldLink RX6 28 "FeedDeskModel" "thrown" "I") (List.mem_of_getElem? (i := 1) rfl)) (fun _ h9 => h9) rfl (by decide +kernel) rfl rfl (Nat.le_of_ble_eq_true rfl) dX6_store_2 (fun H1 locs hP hD hS => ?_)
  have hP : va_P (dC, dI) vwCl (cMd a cI (sU R 6 0 0)) H1 := hP
  have hD : va_D (va_A (cMd a cI R) s.heap.size) (cMd a cI (sU R 6 0 0)) := hD
  obtain ⟨Rn2, eRn2⟩ : ∃ z : SR, z = sU R 6 0 0 := ⟨_, rfl⟩
  rw [sLet_eq, ← eRn2] at hR
  rw [← eRn2] at hP hD
  have ohv3 : vp_in (Rn2 6 1) 6 := (by rw [eRn2]; exact ohv)
  have hI4 : RA Rn2 := (by rw [eRn2]; exact hI)
  have hs5 : RS Rn2 := (by rw [eRn2]; exact hs)
  refine lv_iload_n hx hb dX6_store_5 rfl (lv_at hl 1 rfl) ?_
  have hFc : ∀ q : Nat, va_A [] H1.size q → (va_A (cMd a cI R) s.heap.size) q := roF hS hA
  refine va_calli (va_runS (As := [.int p1]) (rest := []) ⟨hx, hb, hml, hown, hts⟩ (c_X6_isScene l dC dI cI cC cS H1.size p1) (va_cwS 1 hts gX6_store_X6_isScene rfl rfl rfl (by decide +kernel) ⟨Nat.le_of_ble_eq_true rfl, Nat.le_of_ble_eq_true rfl⟩) (pS hK (va_P_nil) (va_D_nil) hN) rfl rfl hl.1 rfl (lv_room (Nat.le_of_ble_eq_true rfl)) dX6_store_6 ⟨Nat.le_of_ble_eq_true rfl, Nat.le_of_ble_eq_true rfl⟩) hS (fun q _ h => hFc q h) hFc (fun r_6 u_6 t_6 H7 locs ht hvm hw hB hz1 hk1 hS => ?_)
  obtain ⟨hw, hre8⟩ := hw
  subst hw
  have hP := ro_keep hP hk1
  refine lv_if_ne (tgt := 14) hx hb dX6_store_9 (by decide) (fun c9 => ?_) (fun c9 => ?_)
  · rw [if_neg c9] at hR
    obtain ⟨ip1, hip1, ep1⟩ := vp_in_of (scene_vp c9) (by decide)
    have ed10 : 181 + (18 * p1) = nI (181 + 18 * ip1) := by rw [ep1]; exact (by decide +kernel : ∀ q : Nat, q < 6 → 181 + (18 * nI q) = nI (181 + 18 * q)) ip1 hip1
    have hd10 : 18 * ip1 < 91 := by omega
    refine lv_aload_n hx hb dX6_store_14 rfl (lv_at hl 0 rfl) ?_
    have hPc : va_P (dC, dI) vwCl (cMd a cI Rn2) H7 := hP.sub [0, 1, 2, 3, 4, 5, 6] rfl
    have hDc : va_D (va_A (cMd a cI R) s.heap.size) (cMd a cI Rn2) := hD.sub [0, 1, 2, 3, 4, 5, 6] (by decide) rfl
    have hFc : ∀ q : Nat, va_A (cMd a cI Rn2) H7.size q → (va_A (cMd a cI R) s.heap.size) q := va_free hD hS hA [0, 1, 2, 3, 4, 5, 6] rfl
    refine va_callv (va_runV (As := []) (rest := []) ⟨hx, hb, hml, hown, hts⟩ (c_X6_act l dC dI cI cC cS a Rn2 H7.size ohv3) (cwV 0 hts gX6_store_X6_act rfl rfl rfl (by decide +kernel) ⟨Nat.le_of_ble_eq_true rfl, Nat.le_of_ble_eq_true rfl⟩) (pV (q0 := 0) hK hPc hDc hN rfl rfl) rfl rfl hl.1 rfl (lv_room (Nat.le_of_ble_eq_true rfl)) dX6_store_15 ⟨Nat.le_of_ble_eq_true rfl, Nat.le_of_ble_eq_true rfl⟩) hS (fun q _ h => hFc q h) hFc (fun u_11 t_11 H12 locs ht hvm hw hB hz1 hk1 hS => ?_)
    obtain ⟨hw, hens13, hens14, hens15, hens16⟩ := hw
    obtain ⟨hP1, hD1⟩ := hB
    rw [ht] at hP1
    subst hw
    obtain ⟨hP, hD⟩ := va_join (wc := cMd a cI Rn2) (wr := []) (w1 := cMd a cI (f_X6_act Rn2)) hP hD [0, 1, 2, 3, 4, 5, 6] [] rfl rfl (by decide) (by decide) hk1 hFc hP1 hD1
    have hP : va_P (dC, dI) vwCl (cMd a cI (f_X6_act Rn2)) H12 := hP.sub [0, 1, 2, 3, 4, 5, 6] rfl
    have hD : va_D (va_A (cMd a cI R) s.heap.size) (cMd a cI (f_X6_act Rn2)) := hD.sub [0, 1, 2, 3, 4, 5, 6] (by decide) rfl
    obtain ⟨Rn17, eRn17⟩ : ∃ z : SR, z = (f_X6_act Rn2) := ⟨_, rfl⟩
    rw [sLet_eq, ← eRn17] at hR
    rw [← eRn17] at hP hD
    have hI19 : RA Rn17 := (by rw [eRn17]; exact ra_eq hI4 hens13)
    have hs20 : RS Rn17 := (by rw [eRn17]; exact rs_eq0 hs5 hens13)
    refine lv_sipush (v := 181) hx hb dX6_store_18 (by decide) ?_
    refine lv_bipush (v := 18) hx hb dX6_store_21 (by decide) ?_
    refine lv_iload_n hx hb dX6_store_23 rfl (lv_at hl 1 rfl) ?_
    refine lv_imul hx hb dX6_store_24 ?_
    refine lv_iadd hx hb dX6_store_25 ?_
    refine lv_istore_n (lv' := [(2, .int (181 + (18 * p1))), (0, .ref (a 0)), (1, .int p1)]) hx hb dX6_store_26 rfl hl (by decide) rfl (fun ls hl => ?_)
    refine lv_aload_n hx hb dX6_store_27 rfl (lv_at hl 1 rfl) ?_
    refine va_get (D := (dC, dI)) (ci := 6) (v := .ref (a 1)) (C := RX6) (T := TX6) (N := 15) hx hb hts hin6 hown hK hP 0 rfl rfl 1 (by decide) (hts (.fieldLink RX6 7 "FeedDeskModel" "s" "[I") (List.mem_of_getElem? (i := 2) rfl)) (fun _ h9 => h9) rfl dX6_store_28 ?_
    refine lv_iload_n hx hb dX6_store_31 rfl (lv_at hl 0 rfl) ?_
    refine lv_iconst (v := 1) hx hb dX6_store_32 (by decide) ?_
    refine va_iast (f := Rn17 0) hx hb hK hP hD hS 1 0 rfl rfl (by rw [ep1]; exact vp_of_B (ix_17 ip1 hip1)) dX6_store_33 (fun H21 locs hP hD hS => ?_)
    have hP : va_P (dC, dI) vwCl (cMd a cI (sU Rn17 0 (181 + (18 * p1)).toNatClampNeg 1)) H21 := hP
    have hD : va_D (va_A (cMd a cI R) s.heap.size) (cMd a cI (sU Rn17 0 (181 + (18 * p1)).toNatClampNeg 1)) := hD
    obtain ⟨Rn22, eRn22⟩ : ∃ z : SR, z = sU Rn17 0 (181 + (18 * p1)).toNatClampNeg 1 := ⟨_, rfl⟩
    rw [sLet_eq, ← eRn22] at hR
    rw [← eRn22] at hP hD
    have hI24 : RA Rn22 := (by rw [eRn22]; exact ra_s hI19 (by rw [ep1]; exact ok_48 ip1 hip1))
    have hs25 : RS Rn22 := (by rw [eRn22]; exact rs_s hs20 (by rw [ep1]; exact ok_49 ip1 hip1))
    refine lv_iconst (v := 0) hx hb dX6_store_34 (by decide) ?_
    refine lv_istore_n (lv' := [(3, .int 0), (2, .int (181 + (18 * p1))), (0, .ref (a 0)), (1, .int p1)]) hx hb dX6_store_35 rfl hl (by decide) rfl (fun ls hl => ?_)
    have hL_36 : ∀ n_36 : Nat, ∀ (j_36 : Nat), ∀ (x2_36 : Int32) (x3_36 : Int32) (R_36 : SR), x3_36 = nI j_36 → j_36 ≤ 16 → 16 < j_36 + n_36 → x2_36 = nI (181 + (18 * ip1)) → RA R_36 → RS R_36 → R0 = f_X6_store_p36 p1 n_36 x2_36 x3_36 R_36 → ∀ (H : Heap) (locs : List Loc) (ls : Array Slot), va_P (dC, dI) vwCl (cMd a cI R_36) H → va_D (va_A (cMd a cI R) s.heap.size) (cMd a cI R_36) → va_S (va_A (cMd a cI R) s.heap.size) s.heap H locs → lv_has ls 4 [(0, .ref (a 0)), (1, .int p1), (2, .int x2_36), (3, .int x3_36)] → W p l e (headSpec wsX6_store rm_X6_store).room s m ([.ref (a 0), .int p1] : List Value).toArray below meth c H locs 0 0 (MQ below (va_Qi (fun (r : Int32) (u : SR) => (r, u) = f_X6_store R p1 ∧ (RA u) ∧ (RS u)) (fun u U => va_P (dC, dI) vwCl (cMd a cI u) U.heap ∧ va_D (va_A (cMd a cI R) s.heap.size) (cMd a cI u)) (va_A (cMd a cI R) s.heap.size)) ([.ref (a 0), .int p1] : List Value).toArray s 0 0 (va_A (cMd a cI R) s.heap.size)) (F0 m 36 ls []) := by
      intro n_36
      induction n_36 with
      | zero =>
        intro j_36 x2_36 x3_36 R_36 ex3_36 hj0_36 hn_36 ex2_36 hI_36 hs_36
        exact absurd hn_36 (by omega)
      | succ n_36 ih_36 =>
        intro j_36 x2_36 x3_36 R_36 ex3_36 hj0_36 hn_36 ex2_36 hI_36 hs_36 hR H locs ls hP hD hS hl
        rw [f_X6_store_p36] at hR
        refine lv_iload_n hx hb dX6_store_36 rfl (lv_at hl 3 rfl) ?_
        refine lv_bipush (v := 16) hx hb dX6_store_37 (by decide) ?_
        refine lv_icmp_ge (tgt := 67) hx hb dX6_store_39 (by decide) (fun c26 => ?_) (fun c26 => ?_)
        · rw [if_pos c26] at hR
          refine lv_aload_n hx hb dX6_store_67 rfl (lv_at hl 0 rfl) ?_
          refine va_get (D := (dC, dI)) (ci := 6) (v := .ref (a 1)) (C := RX6) (T := TX6) (N := 15) hx hb hts hin6 hown hK hP 0 rfl rfl 1 (by decide) (hts (.fieldLink RX6 7 "FeedDeskModel" "s" "[I") (List.mem_of_getElem? (i := 2) rfl)) (fun _ h9 => h9) rfl dX6_store_68 ?_
          refine lv_iload_n hx hb dX6_store_71 rfl (lv_at hl 2 rfl) ?_
          refine lv_bipush (v := 17) hx hb dX6_store_72 (by decide) ?_
          refine lv_iadd hx hb dX6_store_74 ?_
          refine lv_aload_n hx hb dX6_store_75 rfl (lv_at hl 0 rfl) ?_
          have hPc : va_P (dC, dI) vwCl (cMd a cI R_36) H := hP.sub [0, 1, 2, 3, 4, 5, 6] rfl
          have hDc : va_D (va_A (cMd a cI R) s.heap.size) (cMd a cI R_36) := hD.sub [0, 1, 2, 3, 4, 5, 6] (by decide) rfl
          have hFc : ∀ q : Nat, va_A [] H.size q → (va_A (cMd a cI R) s.heap.size) q := roF hS hA
          refine va_calli (va_runV (As := []) (rest := [.int (x2_36 + 17), .ref (a 1)]) ⟨hx, hb, hml, hown, hts⟩ (c_X6_muted l dC dI cI cC cS a R_36 H.size) (cwV 0 hts gX6_store_X6_muted rfl rfl rfl (by decide +kernel) ⟨Nat.le_of_ble_eq_true rfl, Nat.le_of_ble_eq_true rfl⟩) (pV (q0 := 0) hK hPc hDc hN rfl rfl) rfl rfl hl.1 rfl (lv_room (Nat.le_of_ble_eq_true rfl)) dX6_store_76 ⟨Nat.le_of_ble_eq_true rfl, Nat.le_of_ble_eq_true rfl⟩) hS (fun q _ h => hFc q h) hFc (fun r_27 u_27 t_27 H28 locs ht hvm hw hB hz1 hk1 hS => ?_)
          subst hw
          have hP := ro_keep hP hk1
          refine va_iast (f := R_36 0) hx hb hK hP hD hS 1 0 rfl rfl (by rw [ex2_36]; exact vp_of_B (ix_50 (18 * ip1) hd10)) dX6_store_79 (fun H29 locs hP hD hS => ?_)
          have hP : va_P (dC, dI) vwCl (cMd a cI (sU R_36 0 (x2_36 + 17).toNatClampNeg (f_X6_muted R_36))) H29 := hP
          have hD : va_D (va_A (cMd a cI R) s.heap.size) (cMd a cI (sU R_36 0 (x2_36 + 17).toNatClampNeg (f_X6_muted R_36))) := hD
          obtain ⟨Rn30, eRn30⟩ : ∃ z : SR, z = sU R_36 0 (x2_36 + 17).toNatClampNeg (f_X6_muted R_36) := ⟨_, rfl⟩
          rw [sLet_eq, ← eRn30] at hR
          rw [← eRn30] at hP hD
          have hI32 : RA Rn30 := (by rw [eRn30]; exact ra_s hI_36 (by rw [ex2_36]; exact ok_51 (18 * ip1) hd10))
          have hs33 : RS Rn30 := (by rw [eRn30]; exact rs_s hs_36 (by rw [ex2_36]; exact ok_52 (18 * ip1) hd10))
          refine lv_aload_n hx hb dX6_store_80 rfl (lv_at hl 0 rfl) ?_
          have hPc : va_P (dC, dI) vwCl (cMd a cI Rn30) H29 := hP.sub [0, 1, 2, 3, 4, 5, 6] rfl
          have hDc : va_D (va_A (cMd a cI R) s.heap.size) (cMd a cI Rn30) := hD.sub [0, 1, 2, 3, 4, 5, 6] (by decide) rfl
          have hFc : ∀ q : Nat, va_A [] H29.size q → (va_A (cMd a cI R) s.heap.size) q := roF hS hA
          refine va_calli (va_runV (As := []) (rest := []) ⟨hx, hb, hml, hown, hts⟩ (c_X6_scenes l dC dI cI cC cS a Rn30 H29.size) (cwV 0 hts gX6_store_X6_scenes rfl rfl rfl (by decide +kernel) ⟨Nat.le_of_ble_eq_true rfl, Nat.le_of_ble_eq_true rfl⟩) (pV (q0 := 0) hK hPc hDc hN rfl rfl) rfl rfl hl.1 rfl (lv_room (Nat.le_of_ble_eq_true rfl)) dX6_store_81 ⟨Nat.le_of_ble_eq_true rfl, Nat.le_of_ble_eq_true rfl⟩) hS (fun q _ h => hFc q h) hFc (fun r_34 u_34 t_34 H35 locs ht hvm hw hB hz1 hk1 hS => ?_)
          subst hw
          have hP := ro_keep hP hk1
          exact W.iret (v := f_X6_scenes Rn30) hx hb hr (fun t ht hWw => ⟨⟨f_X6_scenes Rn30, Rn30, rfl, ⟨hR.symm.trans eR, hI32, hs33⟩, by rw [ht]; exact hP, hD⟩, hS.F ht⟩) hS.2.2 dX6_store_84
        · rw [if_neg c26] at hR
          have hj_36 : j_36 < 16 := lp_ge ex3_36 (by decide +kernel) (by omega) (by omega) c26
          refine lv_aload_n hx hb dX6_store_42 rfl (lv_at hl 0 rfl) ?_
          refine va_get (D := (dC, dI)) (ci := 6) (v := .ref (a 1)) (C := RX6) (T := TX6) (N := 15) hx hb hts hin6 hown hK hP 0 rfl rfl 1 (by decide) (hts (.fieldLink RX6 7 "FeedDeskModel" "s" "[I") (List.mem_of_getElem? (i := 2) rfl)) (fun _ h9 => h9) rfl dX6_store_43 ?_
          refine lv_iload_n hx hb dX6_store_46 rfl (lv_at hl 2 rfl) ?_
          refine lv_iconst (v := 1) hx hb dX6_store_47 (by decide) ?_
          refine lv_iadd hx hb dX6_store_48 ?_
          refine lv_iload_n hx hb dX6_store_49 rfl (lv_at hl 3 rfl) ?_
          refine lv_iadd hx hb dX6_store_50 ?_
          refine lv_aload_n hx hb dX6_store_51 rfl (lv_at hl 0 rfl) ?_
          refine va_get (D := (dC, dI)) (ci := 6) (v := .ref (a 1)) (C := RX6) (T := TX6) (N := 15) hx hb hts hin6 hown hK hP 0 rfl rfl 1 (by decide) (hts (.fieldLink RX6 7 "FeedDeskModel" "s" "[I") (List.mem_of_getElem? (i := 2) rfl)) (fun _ h9 => h9) rfl dX6_store_52 ?_
          refine lv_iload_n hx hb dX6_store_55 rfl (lv_at hl 3 rfl) ?_
          have hFc : ∀ q : Nat, va_A [] H.size q → (va_A (cMd a cI R) s.heap.size) q := roF hS hA
          refine va_calli (va_runS (As := [.int x3_36]) (rest := [.ref (a 1), .int ((x2_36 + 1) + x3_36), .ref (a 1)]) ⟨hx, hb, hml, hown, hts⟩ (c_X6_at l dC dI cI cC cS H.size x3_36) (va_cwS 1 hts gX6_store_X6_at rfl rfl rfl (by decide +kernel) ⟨Nat.le_of_ble_eq_true rfl, Nat.le_of_ble_eq_true rfl⟩) (pS hK (va_P_nil) (va_D_nil) hN) rfl rfl hl.1 rfl (lv_room (Nat.le_of_ble_eq_true rfl)) dX6_store_56 ⟨Nat.le_of_ble_eq_true rfl, Nat.le_of_ble_eq_true rfl⟩) hS (fun q _ h => hFc q h) hFc (fun r_36 u_36 t_36 H37 locs ht hvm hw hB hz1 hk1 hS => ?_)
          subst hw
          have hP := ro_keep hP hk1
          refine va_iald (f := R_36 0) hx hb hK hP 1 0 rfl rfl (by rw [ex3_36]; exact vp_of_B (ix_24 j_36 hj_36)) dX6_store_59 ?_
          refine va_iast (f := R_36 0) hx hb hK hP hD hS 1 0 rfl rfl (by rw [ex2_36, ex3_36]; exact vp_of_B (ix_53 (18 * ip1) hd10 j_36 hj_36)) dX6_store_60 (fun H38 locs hP hD hS => ?_)
          have hP : va_P (dC, dI) vwCl (cMd a cI (sU R_36 0 ((x2_36 + 1) + x3_36).toNatClampNeg (R_36 0 (f_X6_at x3_36).toNatClampNeg))) H38 := hP
          have hD : va_D (va_A (cMd a cI R) s.heap.size) (cMd a cI (sU R_36 0 ((x2_36 + 1) + x3_36).toNatClampNeg (R_36 0 (f_X6_at x3_36).toNatClampNeg))) := hD
          obtain ⟨Rn39, eRn39⟩ : ∃ z : SR, z = sU R_36 0 ((x2_36 + 1) + x3_36).toNatClampNeg (R_36 0 (f_X6_at x3_36).toNatClampNeg) := ⟨_, rfl⟩
          rw [sLet_eq, ← eRn39] at hR
          rw [← eRn39] at hP hD
          have hI41 : RA Rn39 := (by rw [eRn39]; exact ra_s hI_36 (by rw [ex2_36, ex3_36]; exact ok_54 (18 * ip1) hd10 j_36 hj_36))
          have hs42 : RS Rn39 := (by rw [eRn39]; exact rs_s hs_36 (by rw [ex2_36, ex3_36]; exact ok_55 (18 * ip1) hd10 j_36 hj_36))
          refine lv_iinc (v := x3_36 + 1) (lv' := [(3, .int (x3_36 + 1)), (0, .ref (a 0)), (1, .int p1), (2, .int x2_36)]) hx hb dX6_store_61 hl (k := 3) rfl rfl (by decide) rfl (fun ls hl => ?_)
          refine lv_goto (tgt := 36) hx hb dX6_store_64 (by decide) ?_
          exact ih_36 (j_36 + 1) x2_36 (x3_36 + 1) Rn39 (by rw [ex3_36, nI_1]) (by omega) (by omega) ex2_36 hI41 hs42 hR _ _ _ hP hD hS (lv_sub hl [1, 2, 3, 0] rfl)
    exact hL_36 17 0 (181 + (18 * p1)) 0 Rn22 (by decide +kernel) (by decide) (by decide) ed10 hI24 hs25 hR _ _ _ hP hD hS (lv_sub hl [2, 3, 1, 0] rfl)
  · rw [if_pos c9] at hR
    refine lv_iconst (v := (-1)) hx hb dX6_store_12 (by decide) ?_
    exact W.iret (v := (-1)) hx hb hr (fun t ht hWw => ⟨⟨(-1), Rn2, rfl, ⟨hR.symm.trans eR, hI4, hs5⟩, by rw [ht]; exact hP, hD⟩, hS.F ht⟩) hS.2.2 dX6_store_13
abbrev rm_X6_begin : Room := { frames := 1, cells := 0, slots := 0, locals := 20 }
def f_X6_begin_p20 (p1 : Int32) (p2 : Int32)  : Nat → Int32 → SR → SR
  | 0, _, R_20 => R_20
  | n_20 + 1, x3_20, R_20 => (if 16 ≤ x3_20 then sLet (sU R_20 0 178 (R_20 0 (p1 + 17).toNatClampNeg)) (fun Rn12 : SR => sLet (sU Rn12 0 179 0) (fun Rn16 : SR => sLet (sU Rn16 0 180 0) (fun Rn20 : SR => Rn20))) else sLet (sU R_20 0 (146 + x3_20).toNatClampNeg (R_20 0 (f_X6_at x3_20).toNatClampNeg)) (fun Rn26 : SR => sLet (sU Rn26 0 (162 + x3_20).toNatClampNeg (Rn26 0 ((p1 + 1) + x3_20).toNatClampNeg)) (fun Rn30 : SR => (f_X6_begin_p20 p1 p2 n_20) (x3_20 + 1) Rn30)))
def f_X6_begin (R : SR) (p1 : Int32) (p2 : Int32) : SR := sLet (sU R 0 144 0) (fun Rn2 : SR => sLet (sU Rn2 0 145 p2) (fun Rn6 : SR => f_X6_begin_p20 p1 p2 17 0 Rn6))
theorem ix_56 : ∀ q0 : Nat, q0 < 272 → vp_okB ((nI q0) + 17) 289 = true := by decide +kernel
theorem ok_57 : ∀ q0 : Nat, q0 < 16 → okR (146 + (nI q0)).toNatClampNeg = true := by decide +kernel
theorem ok_58 : ∀ q0 : Nat, q0 < 16 → ok5 (146 + (nI q0)).toNatClampNeg = true := by decide +kernel
theorem ix_59 : ∀ q0 : Nat, q0 < 272 → ∀ q1 : Nat, q1 < 16 → vp_okB (((nI q0) + 1) + (nI q1)) 289 = true := by decide +kernel
theorem ok_60 : ∀ q0 : Nat, q0 < 16 → okR (162 + (nI q0)).toNatClampNeg = true := by decide +kernel
theorem ok_61 : ∀ q0 : Nat, q0 < 16 → ok5 (162 + (nI q0)).toNatClampNeg = true := by decide +kernel
set_option maxHeartbeats 4000000 in
set_option maxRecDepth 100000 in
theorem c_X6_begin (l : Launch) (dC : Nat → ClassId) (dI : Nat → Nat → Nat) (cI cC cS : ClassId) (a : Nat → Nat) (R : SR) (sz : Nat) (p1 : Int32) (p2 : Int32) (h1 : vp_in p1 272) (hp2 : ¬ p2 = 0) (hI : RA R) : Met l yX6_begin wsX6_begin rm_X6_begin (PcG (dC, dI) (tyL cI cC cS) (cMd a cI R) sz [.ref (a 0), .int p1, .int p2]) (va_Qv (fun (u : SR) => u = f_X6_begin R p1 p2 ∧ (RA u) ∧ (RS u)) (fun u U => va_P (dC, dI) vwCl (cMd a cI u) U.heap ∧ va_D (va_A (cMd a cI R) sz) (cMd a cI u)) (va_A (cMd a cI R) sz)) 0 0 (va_A (cMd a cI R) sz) := by
  refine Met.ofW (cc := cX6_begin) (maxL := 4) (ret := none) (by decide) rfl ?_
  intro p e s m args below meth c s₁ B hml hv
  obtain ⟨rfl, hsz, hP, hK, hD0, hN⟩ := hv
  have hx := B.exec
  have hb := B.bytes
  have hr := B.returns
  have hts := atoms_spec (ws := wsX6_begin) B.pre
  have hown : s.vm.findClass RX6 = some m.cls := findClass_of_methodNamed B.named
  have hlocks := B.notSynchronized
  subst hsz
  have hD := hD0.self (sz := s.heap.size)
  have hA : ∀ q : Nat, s.heap.size ≤ q → (va_A (cMd a cI R) s.heap.size) q := fun q h => Or.inr h
  have hS : va_S (va_A (cMd a cI R) s.heap.size) s.heap s.heap [] := va_S.rf
  have hin6 : ∀ w ∈ wsX60, w ∈ wsX6_begin := fun _ h => List.mem_cons_of_mem _ (List.mem_append_right _ h)
  obtain ⟨ip1, hip1, ep1⟩ := vp_in_of h1 (by decide)
  have hl := lv_entry [.ref (a 0), .int p1, .int p2] (n := 4) (Nat.le_of_ble_eq_true rfl)
  rw [lg_entry_eq]
  generalize (lg_sl [.ref (a 0), .int p1, .int p2] ++ List.replicate (4 - (lg_sl [.ref (a 0), .int p1, .int p2]).length) Slot.unset).toArray = ls at hl ⊢
  have hl : lv_has ls 4 [(0, .ref (a 0)), (1, .int p1), (2, .int p2)] := hl
  obtain ⟨R0, eR⟩ : ∃ z, z = f_X6_begin R p1 p2 := ⟨_, rfl⟩
  have hR := eR
  rw [f_X6_begin] at hR
  refine lv_aload_n hx hb dX6_begin_0 rfl (lv_at hl 0 rfl) ?_
  refine va_get (D := (dC, dI)) (ci := 6) (v := .ref (a 1)) (C := RX6) (T := TX6) (N := 15) hx hb hts hin6 hown hK hP 0 rfl rfl 1 (by decide) (hts (.fieldLink RX6 7 "FeedDeskModel" "s" "[I") (List.mem_of_getElem? (i := 1) rfl)) (fun _ h9 => h9) rfl dX6_begin_1 ?_
  refine lv_sipush (v := 144) hx hb dX6_begin_4 (by decide) ?_
  refine lv_iconst (v := 0) hx hb dX6_begin_7 (by decide) ?_
  refine va_iast (f := R 0) hx hb hK hP hD hS 1 0 rfl rfl (vp_of_B (by decide +kernel : vp_okB (144) 289 = true)) dX6_begin_8 (fun H1 locs hP hD hS => ?_)
  have hP : va_P (dC, dI) vwCl (cMd a cI (sU R 0 144 0)) H1 := hP
  have hD : va_D (va_A (cMd a cI R) s.heap.size) (cMd a cI (sU R 0 144 0)) := hD
  obtain ⟨Rn2, eRn2⟩ : ∃ z : SR, z = sU R 0 144 0 := ⟨_, rfl⟩
  rw [sLet_eq, ← eRn2] at hR
  rw [← eRn2] at hP hD
  have hI3 : RA Rn2 := (by rw [eRn2]; exact ra_s hI (by decide +kernel))
  refine lv_aload_n hx hb dX6_begin_9 rfl (lv_at hl 0 rfl) ?_
  refine va_get (D := (dC, dI)) (ci := 6) (v := .ref (a 1)) (C := RX6) (T := TX6) (N := 15) hx hb hts hin6 hown hK hP 0 rfl rfl 1 (by decide) (hts (.fieldLink RX6 7 "FeedDeskModel" "s" "[I") (List.mem_of_getElem? (i := 1) rfl)) (fun _ h9 => h9) rfl dX6_begin_10 ?_
  refine lv_sipush (v := 145) hx hb dX6_begin_13 (by decide) ?_
  refine lv_iload_n hx hb dX6_begin_16 rfl (lv_at hl 2 rfl) ?_
  refine va_iast (f := Rn2 0) hx hb hK hP hD hS 1 0 rfl rfl (vp_of_B (by decide +kernel : vp_okB (145) 289 = true)) dX6_begin_17 (fun H5 locs hP hD hS => ?_)
  have hP : va_P (dC, dI) vwCl (cMd a cI (sU Rn2 0 145 p2)) H5 := hP
  have hD : va_D (va_A (cMd a cI R) s.heap.size) (cMd a cI (sU Rn2 0 145 p2)) := hD
  obtain ⟨Rn6, eRn6⟩ : ∃ z : SR, z = sU Rn2 0 145 p2 := ⟨_, rfl⟩
  rw [sLet_eq, ← eRn6] at hR
  rw [← eRn6] at hP hD
  have hI7 : RA Rn6 := (by rw [eRn6]; exact ra_s hI3 (by decide +kernel))
  have on9 : ¬ Rn6 0 145 = 0 := by rw [eRn6]; exact hp2
  refine lv_iconst (v := 0) hx hb dX6_begin_18 (by decide) ?_
  refine lv_istore_n (lv' := [(3, .int 0), (0, .ref (a 0)), (1, .int p1), (2, .int p2)]) hx hb dX6_begin_19 rfl hl (by decide) rfl (fun ls hl => ?_)
  have hL_20 : ∀ n_20 : Nat, ∀ (j_20 : Nat), ∀ (x3_20 : Int32) (R_20 : SR), x3_20 = nI j_20 → j_20 ≤ 16 → 16 < j_20 + n_20 → RA R_20 → ¬ R_20 0 145 = 0 → R0 = f_X6_begin_p20 p1 p2 n_20 x3_20 R_20 → ∀ (H : Heap) (locs : List Loc) (ls : Array Slot), va_P (dC, dI) vwCl (cMd a cI R_20) H → va_D (va_A (cMd a cI R) s.heap.size) (cMd a cI R_20) → va_S (va_A (cMd a cI R) s.heap.size) s.heap H locs → lv_has ls 4 [(0, .ref (a 0)), (1, .int p1), (2, .int p2), (3, .int x3_20)] → W p l e (headSpec wsX6_begin rm_X6_begin).room s m ([.ref (a 0), .int p1, .int p2] : List Value).toArray below meth c H locs 0 0 (MQ below (va_Qv (fun (u : SR) => u = f_X6_begin R p1 p2 ∧ (RA u) ∧ (RS u)) (fun u U => va_P (dC, dI) vwCl (cMd a cI u) U.heap ∧ va_D (va_A (cMd a cI R) s.heap.size) (cMd a cI u)) (va_A (cMd a cI R) s.heap.size)) ([.ref (a 0), .int p1, .int p2] : List Value).toArray s 0 0 (va_A (cMd a cI R) s.heap.size)) (F0 m 20 ls []) := by
    intro n_20
    induction n_20 with
    | zero =>
      intro j_20 x3_20 R_20 ex3_20 hj0_20 hn_20 hI_20 on_20
      exact absurd hn_20 (by omega)
    | succ n_20 ih_20 =>
      intro j_20 x3_20 R_20 ex3_20 hj0_20 hn_20 hI_20 on_20 hR H locs ls hP hD hS hl
      rw [f_X6_begin_p20] at hR
      refine lv_iload_n hx hb dX6_begin_20 rfl (lv_at hl 3 rfl) ?_
      refine lv_bipush (v := 16) hx hb dX6_begin_21 (by decide) ?_
      refine lv_icmp_ge (tgt := 71) hx hb dX6_begin_23 (by decide) (fun c10 => ?_) (fun c10 => ?_)
      · rw [if_pos c10] at hR
        refine lv_aload_n hx hb dX6_begin_71 rfl (lv_at hl 0 rfl) ?_
        refine va_get (D := (dC, dI)) (ci := 6) (v := .ref (a 1)) (C := RX6) (T := TX6) (N := 15) hx hb hts hin6 hown hK hP 0 rfl rfl 1 (by decide) (hts (.fieldLink RX6 7 "FeedDeskModel" "s" "[I") (List.mem_of_getElem? (i := 1) rfl)) (fun _ h9 => h9) rfl dX6_begin_72 ?_
        refine lv_sipush (v := 178) hx hb dX6_begin_75 (by decide) ?_
        refine lv_aload_n hx hb dX6_begin_78 rfl (lv_at hl 0 rfl) ?_
        refine va_get (D := (dC, dI)) (ci := 6) (v := .ref (a 1)) (C := RX6) (T := TX6) (N := 15) hx hb hts hin6 hown hK hP 0 rfl rfl 1 (by decide) (hts (.fieldLink RX6 7 "FeedDeskModel" "s" "[I") (List.mem_of_getElem? (i := 1) rfl)) (fun _ h9 => h9) rfl dX6_begin_79 ?_
        refine lv_iload_n hx hb dX6_begin_82 rfl (lv_at hl 1 rfl) ?_
        refine lv_bipush (v := 17) hx hb dX6_begin_83 (by decide) ?_
        refine lv_iadd hx hb dX6_begin_85 ?_
        refine va_iald (f := R_20 0) hx hb hK hP 1 0 rfl rfl (by rw [ep1]; exact vp_of_B (ix_56 ip1 hip1)) dX6_begin_86 ?_
        refine va_iast (f := R_20 0) hx hb hK hP hD hS 1 0 rfl rfl (vp_of_B (by decide +kernel : vp_okB (178) 289 = true)) dX6_begin_87 (fun H11 locs hP hD hS => ?_)
        have hP : va_P (dC, dI) vwCl (cMd a cI (sU R_20 0 178 (R_20 0 (p1 + 17).toNatClampNeg))) H11 := hP
        have hD : va_D (va_A (cMd a cI R) s.heap.size) (cMd a cI (sU R_20 0 178 (R_20 0 (p1 + 17).toNatClampNeg))) := hD
        obtain ⟨Rn12, eRn12⟩ : ∃ z : SR, z = sU R_20 0 178 (R_20 0 (p1 + 17).toNatClampNeg) := ⟨_, rfl⟩
        rw [sLet_eq, ← eRn12] at hR
        rw [← eRn12] at hP hD
        have hI13 : RA Rn12 := (by rw [eRn12]; exact ra_s hI_20 (by decide +kernel))
        have on14 : ¬ Rn12 0 145 = 0 := (by rw [eRn12]; exact n_s on_20 (by decide +kernel))
        refine lv_aload_n hx hb dX6_begin_88 rfl (lv_at hl 0 rfl) ?_
        refine va_get (D := (dC, dI)) (ci := 6) (v := .ref (a 1)) (C := RX6) (T := TX6) (N := 15) hx hb hts hin6 hown hK hP 0 rfl rfl 1 (by decide) (hts (.fieldLink RX6 7 "FeedDeskModel" "s" "[I") (List.mem_of_getElem? (i := 1) rfl)) (fun _ h9 => h9) rfl dX6_begin_89 ?_
        refine lv_sipush (v := 179) hx hb dX6_begin_92 (by decide) ?_
        refine lv_iconst (v := 0) hx hb dX6_begin_95 (by decide) ?_
        refine va_iast (f := Rn12 0) hx hb hK hP hD hS 1 0 rfl rfl (vp_of_B (by decide +kernel : vp_okB (179) 289 = true)) dX6_begin_96 (fun H15 locs hP hD hS => ?_)
        have hP : va_P (dC, dI) vwCl (cMd a cI (sU Rn12 0 179 0)) H15 := hP
        have hD : va_D (va_A (cMd a cI R) s.heap.size) (cMd a cI (sU Rn12 0 179 0)) := hD
        obtain ⟨Rn16, eRn16⟩ : ∃ z : SR, z = sU Rn12 0 179 0 := ⟨_, rfl⟩
        rw [sLet_eq, ← eRn16] at hR
        rw [← eRn16] at hP hD
        have hI17 : RA Rn16 := (by rw [eRn16]; exact ra_s hI13 (by decide +kernel))
        have on18 : ¬ Rn16 0 145 = 0 := (by rw [eRn16]; exact n_s on14 (by decide +kernel))
        refine lv_aload_n hx hb dX6_begin_97 rfl (lv_at hl 0 rfl) ?_
        refine va_get (D := (dC, dI)) (ci := 6) (v := .ref (a 1)) (C := RX6) (T := TX6) (N := 15) hx hb hts hin6 hown hK hP 0 rfl rfl 1 (by decide) (hts (.fieldLink RX6 7 "FeedDeskModel" "s" "[I") (List.mem_of_getElem? (i := 1) rfl)) (fun _ h9 => h9) rfl dX6_begin_98 ?_
        refine lv_sipush (v := 180) hx hb dX6_begin_101 (by decide) ?_
        refine lv_iconst (v := 0) hx hb dX6_begin_104 (by decide) ?_
        refine va_iast (f := Rn16 0) hx hb hK hP hD hS 1 0 rfl rfl (vp_of_B (by decide +kernel : vp_okB (180) 289 = true)) dX6_begin_105 (fun H19 locs hP hD hS => ?_)
        have hP : va_P (dC, dI) vwCl (cMd a cI (sU Rn16 0 180 0)) H19 := hP
        have hD : va_D (va_A (cMd a cI R) s.heap.size) (cMd a cI (sU Rn16 0 180 0)) := hD
        obtain ⟨Rn20, eRn20⟩ : ∃ z : SR, z = sU Rn16 0 180 0 := ⟨_, rfl⟩
        rw [sLet_eq, ← eRn20] at hR
        rw [← eRn20] at hP hD
        have hI21 : RA Rn20 := (by rw [eRn20]; exact ra_s hI17 (by decide +kernel))
        have on22 : ¬ Rn20 0 145 = 0 := (by rw [eRn20]; exact n_s on18 (by decide +kernel))
        exact W.vret hx hb hr (fun t ht hWw => ⟨⟨Rn20, rfl, ⟨hR.symm.trans eR, hI21, (rs_n on22)⟩, by rw [ht]; exact hP, hD⟩, hS.F ht⟩) hS.2.2 dX6_begin_106
      · rw [if_neg c10] at hR
        have hj_20 : j_20 < 16 := lp_ge ex3_20 (by decide +kernel) (by omega) (by omega) c10
        refine lv_aload_n hx hb dX6_begin_26 rfl (lv_at hl 0 rfl) ?_
        refine va_get (D := (dC, dI)) (ci := 6) (v := .ref (a 1)) (C := RX6) (T := TX6) (N := 15) hx hb hts hin6 hown hK hP 0 rfl rfl 1 (by decide) (hts (.fieldLink RX6 7 "FeedDeskModel" "s" "[I") (List.mem_of_getElem? (i := 1) rfl)) (fun _ h9 => h9) rfl dX6_begin_27 ?_
        refine lv_sipush (v := 146) hx hb dX6_begin_30 (by decide) ?_
        refine lv_iload_n hx hb dX6_begin_33 rfl (lv_at hl 3 rfl) ?_
        refine lv_iadd hx hb dX6_begin_34 ?_
        refine lv_aload_n hx hb dX6_begin_35 rfl (lv_at hl 0 rfl) ?_
        refine va_get (D := (dC, dI)) (ci := 6) (v := .ref (a 1)) (C := RX6) (T := TX6) (N := 15) hx hb hts hin6 hown hK hP 0 rfl rfl 1 (by decide) (hts (.fieldLink RX6 7 "FeedDeskModel" "s" "[I") (List.mem_of_getElem? (i := 1) rfl)) (fun _ h9 => h9) rfl dX6_begin_36 ?_
        refine lv_iload_n hx hb dX6_begin_39 rfl (lv_at hl 3 rfl) ?_
        have hFc : ∀ q : Nat, va_A [] H.size q → (va_A (cMd a cI R) s.heap.size) q := roF hS hA
        refine va_calli (va_runS (As := [.int x3_20]) (rest := [.ref (a 1), .int (146 + x3_20), .ref (a 1)]) ⟨hx, hb, hml, hown, hts⟩ (c_X6_at l dC dI cI cC cS H.size x3_20) (va_cwS 1 hts gX6_begin_X6_at rfl rfl rfl (by decide +kernel) ⟨Nat.le_of_ble_eq_true rfl, Nat.le_of_ble_eq_true rfl⟩) (pS hK (va_P_nil) (va_D_nil) hN) rfl rfl hl.1 rfl (lv_room (Nat.le_of_ble_eq_true rfl)) dX6_begin_40 ⟨Nat.le_of_ble_eq_true rfl, Nat.le_of_ble_eq_true rfl⟩) hS (fun q _ h => hFc q h) hFc (fun r_23 u_23 t_23 H24 locs ht hvm hw hB hz1 hk1 hS => ?_)
        subst hw
        have hP := ro_keep hP hk1
        refine va_iald (f := R_20 0) hx hb hK hP 1 0 rfl rfl (by rw [ex3_20]; exact vp_of_B (ix_24 j_20 hj_20)) dX6_begin_43 ?_
        refine va_iast (f := R_20 0) hx hb hK hP hD hS 1 0 rfl rfl (by rw [ex3_20]; exact vp_of_B (ix_22 j_20 hj_20)) dX6_begin_44 (fun H25 locs hP hD hS => ?_)
        have hP : va_P (dC, dI) vwCl (cMd a cI (sU R_20 0 (146 + x3_20).toNatClampNeg (R_20 0 (f_X6_at x3_20).toNatClampNeg))) H25 := hP
        have hD : va_D (va_A (cMd a cI R) s.heap.size) (cMd a cI (sU R_20 0 (146 + x3_20).toNatClampNeg (R_20 0 (f_X6_at x3_20).toNatClampNeg))) := hD
        obtain ⟨Rn26, eRn26⟩ : ∃ z : SR, z = sU R_20 0 (146 + x3_20).toNatClampNeg (R_20 0 (f_X6_at x3_20).toNatClampNeg) := ⟨_, rfl⟩
        rw [sLet_eq, ← eRn26] at hR
        rw [← eRn26] at hP hD
        have hI27 : RA Rn26 := (by rw [eRn26]; exact ra_s hI_20 (by rw [ex3_20]; exact ok_57 j_20 hj_20))
        have on28 : ¬ Rn26 0 145 = 0 := (by rw [eRn26]; exact n_s on_20 (by rw [ex3_20]; exact ok_58 j_20 hj_20))
        refine lv_aload_n hx hb dX6_begin_45 rfl (lv_at hl 0 rfl) ?_
        refine va_get (D := (dC, dI)) (ci := 6) (v := .ref (a 1)) (C := RX6) (T := TX6) (N := 15) hx hb hts hin6 hown hK hP 0 rfl rfl 1 (by decide) (hts (.fieldLink RX6 7 "FeedDeskModel" "s" "[I") (List.mem_of_getElem? (i := 1) rfl)) (fun _ h9 => h9) rfl dX6_begin_46 ?_
        refine lv_sipush (v := 162) hx hb dX6_begin_49 (by decide) ?_
        refine lv_iload_n hx hb dX6_begin_52 rfl (lv_at hl 3 rfl) ?_
        refine lv_iadd hx hb dX6_begin_53 ?_
        refine lv_aload_n hx hb dX6_begin_54 rfl (lv_at hl 0 rfl) ?_
        refine va_get (D := (dC, dI)) (ci := 6) (v := .ref (a 1)) (C := RX6) (T := TX6) (N := 15) hx hb hts hin6 hown hK hP 0 rfl rfl 1 (by decide) (hts (.fieldLink RX6 7 "FeedDeskModel" "s" "[I") (List.mem_of_getElem? (i := 1) rfl)) (fun _ h9 => h9) rfl dX6_begin_55 ?_
        refine lv_iload_n hx hb dX6_begin_58 rfl (lv_at hl 1 rfl) ?_
        refine lv_iconst (v := 1) hx hb dX6_begin_59 (by decide) ?_
        refine lv_iadd hx hb dX6_begin_60 ?_
        refine lv_iload_n hx hb dX6_begin_61 rfl (lv_at hl 3 rfl) ?_
        refine lv_iadd hx hb dX6_begin_62 ?_
        refine va_iald (f := Rn26 0) hx hb hK hP 1 0 rfl rfl (by rw [ep1, ex3_20]; exact vp_of_B (ix_59 ip1 hip1 j_20 hj_20)) dX6_begin_63 ?_
        refine va_iast (f := Rn26 0) hx hb hK hP hD hS 1 0 rfl rfl (by rw [ex3_20]; exact vp_of_B (ix_23 j_20 hj_20)) dX6_begin_64 (fun H29 locs hP hD hS => ?_)
        have hP : va_P (dC, dI) vwCl (cMd a cI (sU Rn26 0 (162 + x3_20).toNatClampNeg (Rn26 0 ((p1 + 1) + x3_20).toNatClampNeg))) H29 := hP
        have hD : va_D (va_A (cMd a cI R) s.heap.size) (cMd a cI (sU Rn26 0 (162 + x3_20).toNatClampNeg (Rn26 0 ((p1 + 1) + x3_20).toNatClampNeg))) := hD
        obtain ⟨Rn30, eRn30⟩ : ∃ z : SR, z = sU Rn26 0 (162 + x3_20).toNatClampNeg (Rn26 0 ((p1 + 1) + x3_20).toNatClampNeg) := ⟨_, rfl⟩
        rw [sLet_eq, ← eRn30] at hR
        rw [← eRn30] at hP hD
        have hI31 : RA Rn30 := (by rw [eRn30]; exact ra_s hI27 (by rw [ex3_20]; exact ok_60 j_20 hj_20))
        have on32 : ¬ Rn30 0 145 = 0 := (by rw [eRn30]; exact n_s on28 (by rw [ex3_20]; exact ok_61 j_20 hj_20))
        refine lv_iinc (v := x3_20 + 1) (lv' := [(3, .int (x3_20 + 1)), (0, .ref (a 0)), (1, .int p1), (2, .int p2)]) hx hb dX6_begin_65 hl (k := 3) rfl rfl (by decide) rfl (fun ls hl => ?_)
        refine lv_goto (tgt := 20) hx hb dX6_begin_68 (by decide) ?_
        exact ih_20 (j_20 + 1) (x3_20 + 1) Rn30 (by rw [ex3_20, nI_1]) (by omega) (by omega) hI31 on32 hR _ _ _ hP hD hS (lv_sub hl [1, 2, 3, 0] rfl)
  exact hL_20 17 0 0 Rn6 (by decide +kernel) (by decide) (by decide) hI7 on9 hR _ _ _ hP hD hS (lv_sub hl [1, 2, 3, 0] rfl)
abbrev rm_X6_jump : Room := { frames := 2, cells := 0, slots := 0, locals := 44 }
def f_X6_jump_p29 (p1 : Int32)  : Nat → Int32 → SR → SR
  | 0, _, R_29 => R_29
  | n_29 + 1, x2_29, R_29 => (if 16 ≤ x2_29 then sLet ((f_X6_mute R_29 (R_29 0 (p1 + 17).toNatClampNeg))) (fun Rn20 : SR => Rn20) else sLet (sU R_29 0 (f_X6_at x2_29).toNatClampNeg (R_29 0 ((p1 + 1) + x2_29).toNatClampNeg)) (fun Rn27 : SR => (f_X6_jump_p29 p1 n_29) (x2_29 + 1) Rn27))
def f_X6_jump (R : SR) (p1 : Int32) : SR := sLet (sU R 0 144 (-1)) (fun Rn2 : SR => sLet (sU Rn2 0 179 0) (fun Rn6 : SR => sLet (sU Rn6 0 180 0) (fun Rn10 : SR => f_X6_jump_p29 p1 17 0 Rn10)))
theorem ok_62 : ∀ q0 : Nat, q0 < 16 → okT (f_X6_at (nI q0)).toNatClampNeg = true := by decide +kernel
set_option maxHeartbeats 4000000 in
set_option maxRecDepth 100000 in
theorem c_X6_jump (l : Launch) (dC : Nat → ClassId) (dI : Nat → Nat → Nat) (cI cC cS : ClassId) (a : Nat → Nat) (R : SR) (sz : Nat) (p1 : Int32) (h1 : vp_in p1 272) (hI : RA R) (hs : RS R) : Met l yX6_jump wsX6_jump rm_X6_jump (PcG (dC, dI) (tyL cI cC cS) (cMd a cI R) sz [.ref (a 0), .int p1]) (va_Qv (fun (u : SR) => u = f_X6_jump R p1 ∧ (RA u) ∧ (RS u)) (fun u U => va_P (dC, dI) vwCl (cMd a cI u) U.heap ∧ va_D (va_A (cMd a cI R) sz) (cMd a cI u)) (va_A (cMd a cI R) sz)) 0 0 (va_A (cMd a cI R) sz) := by
  refine Met.ofW (cc := cX6_jump) (maxL := 3) (ret := none) (by decide) rfl ?_
  intro p e s m args below meth c s₁ B hml hv
  obtain ⟨rfl, hsz, hP, hK, hD0, hN⟩ := hv
  have hx := B.exec
  have hb := B.bytes
  have hr := B.returns
  have hts := atoms_spec (ws := wsX6_jump) B.pre
  have hown : s.vm.findClass RX6 = some m.cls := findClass_of_methodNamed B.named
  have hlocks := B.notSynchronized
  subst hsz
  have hD := hD0.self (sz := s.heap.size)
  have hA : ∀ q : Nat, s.heap.size ≤ q → (va_A (cMd a cI R) s.heap.size) q := fun q h => Or.inr h
  have hS : va_S (va_A (cMd a cI R) s.heap.size) s.heap s.heap [] := va_S.rf
  have hin6 : ∀ w ∈ wsX60, w ∈ wsX6_jump := fun _ h => List.mem_cons_of_mem _ (List.mem_append_right _ h)
  obtain ⟨ip1, hip1, ep1⟩ := vp_in_of h1 (by decide)
  have hl := lv_entry [.ref (a 0), .int p1] (n := 3) (Nat.le_of_ble_eq_true rfl)
  rw [lg_entry_eq]
  generalize (lg_sl [.ref (a 0), .int p1] ++ List.replicate (3 - (lg_sl [.ref (a 0), .int p1]).length) Slot.unset).toArray = ls at hl ⊢
  have hl : lv_has ls 3 [(0, .ref (a 0)), (1, .int p1)] := hl
  obtain ⟨R0, eR⟩ : ∃ z, z = f_X6_jump R p1 := ⟨_, rfl⟩
  have hR := eR
  rw [f_X6_jump] at hR
  refine lv_aload_n hx hb dX6_jump_0 rfl (lv_at hl 0 rfl) ?_
  refine va_get (D := (dC, dI)) (ci := 6) (v := .ref (a 1)) (C := RX6) (T := TX6) (N := 15) hx hb hts hin6 hown hK hP 0 rfl rfl 1 (by decide) (hts (.fieldLink RX6 7 "FeedDeskModel" "s" "[I") (List.mem_of_getElem? (i := 1) rfl)) (fun _ h9 => h9) rfl dX6_jump_1 ?_
  refine lv_sipush (v := 144) hx hb dX6_jump_4 (by decide) ?_
  refine lv_iconst (v := (-1)) hx hb dX6_jump_7 (by decide) ?_
  refine va_iast (f := R 0) hx hb hK hP hD hS 1 0 rfl rfl (vp_of_B (by decide +kernel : vp_okB (144) 289 = true)) dX6_jump_8 (fun H1 locs hP hD hS => ?_)
  have hP : va_P (dC, dI) vwCl (cMd a cI (sU R 0 144 (-1))) H1 := hP
  have hD : va_D (va_A (cMd a cI R) s.heap.size) (cMd a cI (sU R 0 144 (-1))) := hD
  obtain ⟨Rn2, eRn2⟩ : ∃ z : SR, z = sU R 0 144 (-1) := ⟨_, rfl⟩
  rw [sLet_eq, ← eRn2] at hR
  rw [← eRn2] at hP hD
  have hI3 : RA Rn2 := (by rw [eRn2]; exact ra_s hI (by decide +kernel))
  have hs4 : RS Rn2 := (by rw [eRn2]; exact rs_neg (by decide))
  refine lv_aload_n hx hb dX6_jump_9 rfl (lv_at hl 0 rfl) ?_
  refine va_get (D := (dC, dI)) (ci := 6) (v := .ref (a 1)) (C := RX6) (T := TX6) (N := 15) hx hb hts hin6 hown hK hP 0 rfl rfl 1 (by decide) (hts (.fieldLink RX6 7 "FeedDeskModel" "s" "[I") (List.mem_of_getElem? (i := 1) rfl)) (fun _ h9 => h9) rfl dX6_jump_10 ?_
  refine lv_sipush (v := 179) hx hb dX6_jump_13 (by decide) ?_
  refine lv_iconst (v := 0) hx hb dX6_jump_16 (by decide) ?_
  refine va_iast (f := Rn2 0) hx hb hK hP hD hS 1 0 rfl rfl (vp_of_B (by decide +kernel : vp_okB (179) 289 = true)) dX6_jump_17 (fun H5 locs hP hD hS => ?_)
  have hP : va_P (dC, dI) vwCl (cMd a cI (sU Rn2 0 179 0)) H5 := hP
  have hD : va_D (va_A (cMd a cI R) s.heap.size) (cMd a cI (sU Rn2 0 179 0)) := hD
  obtain ⟨Rn6, eRn6⟩ : ∃ z : SR, z = sU Rn2 0 179 0 := ⟨_, rfl⟩
  rw [sLet_eq, ← eRn6] at hR
  rw [← eRn6] at hP hD
  have hI7 : RA Rn6 := (by rw [eRn6]; exact ra_s hI3 (by decide +kernel))
  have hs8 : RS Rn6 := (by rw [eRn6]; exact rs_s hs4 (by decide +kernel))
  refine lv_aload_n hx hb dX6_jump_18 rfl (lv_at hl 0 rfl) ?_
  refine va_get (D := (dC, dI)) (ci := 6) (v := .ref (a 1)) (C := RX6) (T := TX6) (N := 15) hx hb hts hin6 hown hK hP 0 rfl rfl 1 (by decide) (hts (.fieldLink RX6 7 "FeedDeskModel" "s" "[I") (List.mem_of_getElem? (i := 1) rfl)) (fun _ h9 => h9) rfl dX6_jump_19 ?_
  refine lv_sipush (v := 180) hx hb dX6_jump_22 (by decide) ?_
  refine lv_iconst (v := 0) hx hb dX6_jump_25 (by decide) ?_
  refine va_iast (f := Rn6 0) hx hb hK hP hD hS 1 0 rfl rfl (vp_of_B (by decide +kernel : vp_okB (180) 289 = true)) dX6_jump_26 (fun H9 locs hP hD hS => ?_)
  have hP : va_P (dC, dI) vwCl (cMd a cI (sU Rn6 0 180 0)) H9 := hP
  have hD : va_D (va_A (cMd a cI R) s.heap.size) (cMd a cI (sU Rn6 0 180 0)) := hD
  obtain ⟨Rn10, eRn10⟩ : ∃ z : SR, z = sU Rn6 0 180 0 := ⟨_, rfl⟩
  rw [sLet_eq, ← eRn10] at hR
  rw [← eRn10] at hP hD
  have hI11 : RA Rn10 := (by rw [eRn10]; exact ra_s hI7 (by decide +kernel))
  have hs12 : RS Rn10 := (by rw [eRn10]; exact rs_s hs8 (by decide +kernel))
  refine lv_iconst (v := 0) hx hb dX6_jump_27 (by decide) ?_
  refine lv_istore_n (lv' := [(2, .int 0), (0, .ref (a 0)), (1, .int p1)]) hx hb dX6_jump_28 rfl hl (by decide) rfl (fun ls hl => ?_)
  have hL_29 : ∀ n_29 : Nat, ∀ (j_29 : Nat), ∀ (x2_29 : Int32) (R_29 : SR), x2_29 = nI j_29 → j_29 ≤ 16 → 16 < j_29 + n_29 → RA R_29 → RS R_29 → R0 = f_X6_jump_p29 p1 n_29 x2_29 R_29 → ∀ (H : Heap) (locs : List Loc) (ls : Array Slot), va_P (dC, dI) vwCl (cMd a cI R_29) H → va_D (va_A (cMd a cI R) s.heap.size) (cMd a cI R_29) → va_S (va_A (cMd a cI R) s.heap.size) s.heap H locs → lv_has ls 3 [(0, .ref (a 0)), (1, .int p1), (2, .int x2_29)] → W p l e (headSpec wsX6_jump rm_X6_jump).room s m ([.ref (a 0), .int p1] : List Value).toArray below meth c H locs 0 0 (MQ below (va_Qv (fun (u : SR) => u = f_X6_jump R p1 ∧ (RA u) ∧ (RS u)) (fun u U => va_P (dC, dI) vwCl (cMd a cI u) U.heap ∧ va_D (va_A (cMd a cI R) s.heap.size) (cMd a cI u)) (va_A (cMd a cI R) s.heap.size)) ([.ref (a 0), .int p1] : List Value).toArray s 0 0 (va_A (cMd a cI R) s.heap.size)) (F0 m 29 ls []) := by
    intro n_29
    induction n_29 with
    | zero =>
      intro j_29 x2_29 R_29 ex2_29 hj0_29 hn_29 hI_29 hs_29
      exact absurd hn_29 (by omega)
    | succ n_29 ih_29 =>
      intro j_29 x2_29 R_29 ex2_29 hj0_29 hn_29 hI_29 hs_29 hR H locs ls hP hD hS hl
      rw [f_X6_jump_p29] at hR
      refine lv_iload_n hx hb dX6_jump_29 rfl (lv_at hl 2 rfl) ?_
      refine lv_bipush (v := 16) hx hb dX6_jump_30 (by decide) ?_
      refine lv_icmp_ge (tgt := 60) hx hb dX6_jump_32 (by decide) (fun c13 => ?_) (fun c13 => ?_)
      · rw [if_pos c13] at hR
        refine lv_aload_n hx hb dX6_jump_60 rfl (lv_at hl 0 rfl) ?_
        refine lv_aload_n hx hb dX6_jump_61 rfl (lv_at hl 0 rfl) ?_
        refine va_get (D := (dC, dI)) (ci := 6) (v := .ref (a 1)) (C := RX6) (T := TX6) (N := 15) hx hb hts hin6 hown hK hP 0 rfl rfl 1 (by decide) (hts (.fieldLink RX6 7 "FeedDeskModel" "s" "[I") (List.mem_of_getElem? (i := 1) rfl)) (fun _ h9 => h9) rfl dX6_jump_62 ?_
        refine lv_iload_n hx hb dX6_jump_65 rfl (lv_at hl 1 rfl) ?_
        refine lv_bipush (v := 17) hx hb dX6_jump_66 (by decide) ?_
        refine lv_iadd hx hb dX6_jump_68 ?_
        refine va_iald (f := R_29 0) hx hb hK hP 1 0 rfl rfl (by rw [ep1]; exact vp_of_B (ix_56 ip1 hip1)) dX6_jump_69 ?_
        have hPc : va_P (dC, dI) vwCl (cMd a cI R_29) H := hP.sub [0, 1, 2, 3, 4, 5, 6] rfl
        have hDc : va_D (va_A (cMd a cI R) s.heap.size) (cMd a cI R_29) := hD.sub [0, 1, 2, 3, 4, 5, 6] (by decide) rfl
        have hFc : ∀ q : Nat, va_A (cMd a cI R_29) H.size q → (va_A (cMd a cI R) s.heap.size) q := va_free hD hS hA [0, 1, 2, 3, 4, 5, 6] rfl
        refine va_callv (va_runV (As := [.int (R_29 0 (p1 + 17).toNatClampNeg)]) (rest := []) ⟨hx, hb, hml, hown, hts⟩ (c_X6_mute l dC dI cI cC cS a R_29 H.size (R_29 0 (p1 + 17).toNatClampNeg) hI_29) (cwV 1 hts gX6_jump_X6_mute rfl rfl rfl (by decide +kernel) ⟨Nat.le_of_ble_eq_true rfl, Nat.le_of_ble_eq_true rfl⟩) (pV (q0 := 0) hK hPc hDc hN rfl rfl) rfl rfl hl.1 rfl (lv_room (Nat.le_of_ble_eq_true rfl)) dX6_jump_70 ⟨Nat.le_of_ble_eq_true rfl, Nat.le_of_ble_eq_true rfl⟩) hS (fun q _ h => hFc q h) hFc (fun u_14 t_14 H15 locs ht hvm hw hB hz1 hk1 hS => ?_)
        obtain ⟨hw, hens16, hens17, hens18, hens19⟩ := hw
        obtain ⟨hP1, hD1⟩ := hB
        rw [ht] at hP1
        subst hw
        obtain ⟨hP, hD⟩ := va_join (wc := cMd a cI R_29) (wr := []) (w1 := cMd a cI (f_X6_mute R_29 (R_29 0 (p1 + 17).toNatClampNeg))) hP hD [0, 1, 2, 3, 4, 5, 6] [] rfl rfl (by decide) (by decide) hk1 hFc hP1 hD1
        have hP : va_P (dC, dI) vwCl (cMd a cI (f_X6_mute R_29 (R_29 0 (p1 + 17).toNatClampNeg))) H15 := hP.sub [0, 1, 2, 3, 4, 5, 6] rfl
        have hD : va_D (va_A (cMd a cI R) s.heap.size) (cMd a cI (f_X6_mute R_29 (R_29 0 (p1 + 17).toNatClampNeg))) := hD.sub [0, 1, 2, 3, 4, 5, 6] (by decide) rfl
        obtain ⟨Rn20, eRn20⟩ : ∃ z : SR, z = (f_X6_mute R_29 (R_29 0 (p1 + 17).toNatClampNeg)) := ⟨_, rfl⟩
        rw [sLet_eq, ← eRn20] at hR
        rw [← eRn20] at hP hD
        have hI21 : RA Rn20 := by rw [eRn20]; exact hens16
        have hs22 : RS Rn20 := (by rw [eRn20]; exact rs_eq hs_29 hens17 hens18)
        have hq23 : FX R_29 Rn20 := by rw [eRn20]; exact hens19
        exact W.vret hx hb hr (fun t ht hWw => ⟨⟨Rn20, rfl, ⟨hR.symm.trans eR, hI21, hs22⟩, by rw [ht]; exact hP, hD⟩, hS.F ht⟩) hS.2.2 dX6_jump_73
      · rw [if_neg c13] at hR
        have hj_29 : j_29 < 16 := lp_ge ex2_29 (by decide +kernel) (by omega) (by omega) c13
        refine lv_aload_n hx hb dX6_jump_35 rfl (lv_at hl 0 rfl) ?_
        refine va_get (D := (dC, dI)) (ci := 6) (v := .ref (a 1)) (C := RX6) (T := TX6) (N := 15) hx hb hts hin6 hown hK hP 0 rfl rfl 1 (by decide) (hts (.fieldLink RX6 7 "FeedDeskModel" "s" "[I") (List.mem_of_getElem? (i := 1) rfl)) (fun _ h9 => h9) rfl dX6_jump_36 ?_
        refine lv_iload_n hx hb dX6_jump_39 rfl (lv_at hl 2 rfl) ?_
        have hFc : ∀ q : Nat, va_A [] H.size q → (va_A (cMd a cI R) s.heap.size) q := roF hS hA
        refine va_calli (va_runS (As := [.int x2_29]) (rest := [.ref (a 1)]) ⟨hx, hb, hml, hown, hts⟩ (c_X6_at l dC dI cI cC cS H.size x2_29) (va_cwS 1 hts gX6_jump_X6_at rfl rfl rfl (by decide +kernel) ⟨Nat.le_of_ble_eq_true rfl, Nat.le_of_ble_eq_true rfl⟩) (pS hK (va_P_nil) (va_D_nil) hN) rfl rfl hl.1 rfl (lv_room (Nat.le_of_ble_eq_true rfl)) dX6_jump_40 ⟨Nat.le_of_ble_eq_true rfl, Nat.le_of_ble_eq_true rfl⟩) hS (fun q _ h => hFc q h) hFc (fun r_24 u_24 t_24 H25 locs ht hvm hw hB hz1 hk1 hS => ?_)
        subst hw
        have hP := ro_keep hP hk1
        refine lv_aload_n hx hb dX6_jump_43 rfl (lv_at hl 0 rfl) ?_
        refine va_get (D := (dC, dI)) (ci := 6) (v := .ref (a 1)) (C := RX6) (T := TX6) (N := 15) hx hb hts hin6 hown hK hP 0 rfl rfl 1 (by decide) (hts (.fieldLink RX6 7 "FeedDeskModel" "s" "[I") (List.mem_of_getElem? (i := 1) rfl)) (fun _ h9 => h9) rfl dX6_jump_44 ?_
        refine lv_iload_n hx hb dX6_jump_47 rfl (lv_at hl 1 rfl) ?_
        refine lv_iconst (v := 1) hx hb dX6_jump_48 (by decide) ?_
        refine lv_iadd hx hb dX6_jump_49 ?_
        refine lv_iload_n hx hb dX6_jump_50 rfl (lv_at hl 2 rfl) ?_
        refine lv_iadd hx hb dX6_jump_51 ?_
        refine va_iald (f := R_29 0) hx hb hK hP 1 0 rfl rfl (by rw [ep1, ex2_29]; exact vp_of_B (ix_59 ip1 hip1 j_29 hj_29)) dX6_jump_52 ?_
        refine va_iast (f := R_29 0) hx hb hK hP hD hS 1 0 rfl rfl (by rw [ex2_29]; exact vp_of_B (ix_24 j_29 hj_29)) dX6_jump_53 (fun H26 locs hP hD hS => ?_)
        have hP : va_P (dC, dI) vwCl (cMd a cI (sU R_29 0 (f_X6_at x2_29).toNatClampNeg (R_29 0 ((p1 + 1) + x2_29).toNatClampNeg))) H26 := hP
        have hD : va_D (va_A (cMd a cI R) s.heap.size) (cMd a cI (sU R_29 0 (f_X6_at x2_29).toNatClampNeg (R_29 0 ((p1 + 1) + x2_29).toNatClampNeg))) := hD
        obtain ⟨Rn27, eRn27⟩ : ∃ z : SR, z = sU R_29 0 (f_X6_at x2_29).toNatClampNeg (R_29 0 ((p1 + 1) + x2_29).toNatClampNeg) := ⟨_, rfl⟩
        rw [sLet_eq, ← eRn27] at hR
        rw [← eRn27] at hP hD
        have hI28 : RA Rn27 := (by rw [eRn27]; exact ra_s hI_29 (by rw [ex2_29]; exact ok_25 j_29 hj_29))
        have hs29 : RS Rn27 := (by rw [eRn27]; exact rs_s hs_29 (by rw [ex2_29]; exact ok_62 j_29 hj_29))
        refine lv_iinc (v := x2_29 + 1) (lv' := [(2, .int (x2_29 + 1)), (0, .ref (a 0)), (1, .int p1)]) hx hb dX6_jump_54 hl (k := 2) rfl rfl (by decide) rfl (fun ls hl => ?_)
        refine lv_goto (tgt := 29) hx hb dX6_jump_57 (by decide) ?_
        exact ih_29 (j_29 + 1) (x2_29 + 1) Rn27 (by rw [ex2_29, nI_1]) (by omega) (by omega) hI28 hs29 hR _ _ _ hP hD hS (lv_sub hl [1, 2, 0] rfl)
  exact hL_29 17 0 0 Rn10 (by decide +kernel) (by decide) (by decide) hI11 hs12 hR _ _ _ hP hD hS (lv_sub hl [1, 2, 0] rfl)
abbrev rm_X6_recall : Room := { frames := 3, cells := 0, slots := 0, locals := 66 }
def f_X6_recall_p55 (p1 : Int32) (p2 : Int32)  : Nat → Int32 → Int32 → Int32 → SR → (Int32 × SR)
  | 0, _, _, _, R_55 => (0, R_55)
  | n_55 + 1, x3_55, x4_55, x5_55, R_55 => (if 16 ≤ x5_55 then (if p2 = 0 then sLet ((f_X6_jump R_55 x3_55)) (fun Rn40 : SR => (x4_55, Rn40)) else sLet ((f_X6_begin R_55 x3_55 p2)) (fun Rn32 : SR => (x4_55, Rn32))) else (if (R_55 0 (f_X6_at x5_55).toNatClampNeg) = (R_55 0 ((x3_55 + 1) + x5_55).toNatClampNeg) then (f_X6_recall_p55 p1 p2 n_55) x3_55 (x4_55 + 0) (x5_55 + 1) R_55 else (f_X6_recall_p55 p1 p2 n_55) x3_55 (x4_55 + 1) (x5_55 + 1) R_55))
def f_X6_recall (R : SR) (p1 : Int32) (p2 : Int32) : Int32 × SR := sLet (sU R 6 0 0) (fun Rn2 : SR => (if (f_X6_isScene p1) = 0 then ((-1), Rn2) else (if (f_X6_in p2 0 100) = 0 then ((-1), Rn2) else (if (Rn2 0 (181 + (18 * p1)).toNatClampNeg) = 0 then ((-2), Rn2) else sLet ((f_X6_act Rn2)) (fun Rn22 : SR => f_X6_recall_p55 p1 p2 17 (181 + (18 * p1)) 0 0 Rn22)))))
theorem ix_63 : ∀ q0 : Nat, q0 < 91 → vp_okB ((nI (181 + q0))) 272 = true := by decide +kernel
set_option maxHeartbeats 4000000 in
set_option maxRecDepth 100000 in
theorem c_X6_recall (l : Launch) (dC : Nat → ClassId) (dI : Nat → Nat → Nat) (cI cC cS : ClassId) (a : Nat → Nat) (R : SR) (sz : Nat) (p1 : Int32) (p2 : Int32) (ohv : vp_in (R 6 1) 6) (hI : RA R) (hs : RS R) : Met l yX6_recall wsX6_recall rm_X6_recall (PcG (dC, dI) (tyL cI cC cS) (cMd a cI R) sz [.ref (a 0), .int p1, .int p2]) (va_Qi (fun (r : Int32) (u : SR) => (r, u) = f_X6_recall R p1 p2 ∧ (RA u) ∧ (RS u)) (fun u U => va_P (dC, dI) vwCl (cMd a cI u) U.heap ∧ va_D (va_A (cMd a cI R) sz) (cMd a cI u)) (va_A (cMd a cI R) sz)) 0 0 (va_A (cMd a cI R) sz) := by
  refine Met.ofW (cc := cX6_recall) (maxL := 6) (ret := (some .int)) (by decide) rfl ?_
  intro p e s m args below meth c s₁ B hml hv
  obtain ⟨rfl, hsz, hP, hK, hD0, hN⟩ := hv
  have hx := B.exec
  have hb := B.bytes
  have hr := B.returns
  have hts := atoms_spec (ws := wsX6_recall) B.pre
  have hown : s.vm.findClass RX6 = some m.cls := findClass_of_methodNamed B.named
  have hlocks := B.notSynchronized
  subst hsz
  have hD := hD0.self (sz := s.heap.size)
  have hA : ∀ q : Nat, s.heap.size ≤ q → (va_A (cMd a cI R) s.heap.size) q := fun q h => Or.inr h
  have hS : va_S (va_A (cMd a cI R) s.heap.size) s.heap s.heap [] := va_S.rf
  have hin6 : ∀ w ∈ wsX60, w ∈ wsX6_recall := fun _ h => List.mem_cons_of_mem _ (List.mem_append_right _ h)
  have hl := lv_entry [.ref (a 0), .int p1, .int p2] (n := 6) (Nat.le_of_ble_eq_true rfl)
  rw [lg_entry_eq]
  generalize (lg_sl [.ref (a 0), .int p1, .int p2] ++ List.replicate (6 - (lg_sl [.ref (a 0), .int p1, .int p2]).length) Slot.unset).toArray = ls at hl ⊢
  have hl : lv_has ls 6 [(0, .ref (a 0)), (1, .int p1), (2, .int p2)] := hl
  obtain ⟨R0, eR⟩ : ∃ z, z = f_X6_recall R p1 p2 := ⟨_, rfl⟩
  have hR := eR
  rw [f_X6_recall] at hR
  refine lv_aload_n hx hb dX6_recall_0 rfl (lv_at hl 0 rfl) ?_
  refine lv_iconst (v := 0) hx hb dX6_recall_1 (by decide) ?_
  refine va_put (D := (dC, dI)) (ci := 6) (v := .int 0) (ty := .int) (C := RX6) (T := TX6) (N := 15) hx hb hts hin6 tyX6 tyX6_ok nmX6 hown hK hP hD hS 0 rfl rfl 0 (by decide) (hts (.fieldLink RX6 28 "FeedDeskModel" "thrown" "I") (List.mem_of_getElem? (i := 1) rfl)) (fun _ h9 => h9) rfl (by decide +kernel) rfl rfl (Nat.le_of_ble_eq_true rfl) dX6_recall_2 (fun H1 locs hP hD hS => ?_)
  have hP : va_P (dC, dI) vwCl (cMd a cI (sU R 6 0 0)) H1 := hP
  have hD : va_D (va_A (cMd a cI R) s.heap.size) (cMd a cI (sU R 6 0 0)) := hD
  obtain ⟨Rn2, eRn2⟩ : ∃ z : SR, z = sU R 6 0 0 := ⟨_, rfl⟩
  rw [sLet_eq, ← eRn2] at hR
  rw [← eRn2] at hP hD
  have ohv3 : vp_in (Rn2 6 1) 6 := (by rw [eRn2]; exact ohv)
  have hI4 : RA Rn2 := (by rw [eRn2]; exact hI)
  have hs5 : RS Rn2 := (by rw [eRn2]; exact hs)
  refine lv_iload_n hx hb dX6_recall_5 rfl (lv_at hl 1 rfl) ?_
  have hFc : ∀ q : Nat, va_A [] H1.size q → (va_A (cMd a cI R) s.heap.size) q := roF hS hA
  refine va_calli (va_runS (As := [.int p1]) (rest := []) ⟨hx, hb, hml, hown, hts⟩ (c_X6_isScene l dC dI cI cC cS H1.size p1) (va_cwS 1 hts gX6_recall_X6_isScene rfl rfl rfl (by decide +kernel) ⟨Nat.le_of_ble_eq_true rfl, Nat.le_of_ble_eq_true rfl⟩) (pS hK (va_P_nil) (va_D_nil) hN) rfl rfl hl.1 rfl (lv_room (Nat.le_of_ble_eq_true rfl)) dX6_recall_6 ⟨Nat.le_of_ble_eq_true rfl, Nat.le_of_ble_eq_true rfl⟩) hS (fun q _ h => hFc q h) hFc (fun r_6 u_6 t_6 H7 locs ht hvm hw hB hz1 hk1 hS => ?_)
  obtain ⟨hw, hre8⟩ := hw
  subst hw
  have hP := ro_keep hP hk1
  refine lv_if_eq (tgt := 22) hx hb dX6_recall_9 (by decide) (fun c9 => ?_) (fun c9 => ?_)
  · rw [if_pos c9] at hR
    refine lv_iconst (v := (-1)) hx hb dX6_recall_22 (by decide) ?_
    exact W.iret (v := (-1)) hx hb hr (fun t ht hWw => ⟨⟨(-1), Rn2, rfl, ⟨hR.symm.trans eR, hI4, hs5⟩, by rw [ht]; exact hP, hD⟩, hS.F ht⟩) hS.2.2 dX6_recall_23
  · rw [if_neg c9] at hR
    obtain ⟨ip1, hip1, ep1⟩ := vp_in_of (scene_vp c9) (by decide)
    have ed10 : 181 + (18 * p1) = nI (181 + 18 * ip1) := by rw [ep1]; exact (by decide +kernel : ∀ q : Nat, q < 6 → 181 + (18 * nI q) = nI (181 + 18 * q)) ip1 hip1
    have hd10 : 18 * ip1 < 91 := by omega
    refine lv_iload_n hx hb dX6_recall_12 rfl (lv_at hl 2 rfl) ?_
    refine lv_iconst (v := 0) hx hb dX6_recall_13 (by decide) ?_
    refine lv_bipush (v := 100) hx hb dX6_recall_14 (by decide) ?_
    have hFc : ∀ q : Nat, va_A [] H7.size q → (va_A (cMd a cI R) s.heap.size) q := roF hS hA
    refine va_calli (va_runS (As := [.int p2, .int 0, .int 100]) (rest := []) ⟨hx, hb, hml, hown, hts⟩ (c_X6_in l dC dI cI cC cS H7.size p2 0 100) (va_cwS 3 hts gX6_recall_X6_in rfl rfl rfl (by decide +kernel) ⟨Nat.le_of_ble_eq_true rfl, Nat.le_of_ble_eq_true rfl⟩) (pS hK (va_P_nil) (va_D_nil) hN) rfl rfl hl.1 rfl (lv_room (Nat.le_of_ble_eq_true rfl)) dX6_recall_16 ⟨Nat.le_of_ble_eq_true rfl, Nat.le_of_ble_eq_true rfl⟩) hS (fun q _ h => hFc q h) hFc (fun r_11 u_11 t_11 H12 locs ht hvm hw hB hz1 hk1 hS => ?_)
    obtain ⟨hw, hre13⟩ := hw
    subst hw
    have hP := ro_keep hP hk1
    refine lv_if_ne (tgt := 24) hx hb dX6_recall_19 (by decide) (fun c14 => ?_) (fun c14 => ?_)
    · rw [if_neg c14] at hR
      refine lv_sipush (v := 181) hx hb dX6_recall_24 (by decide) ?_
      refine lv_bipush (v := 18) hx hb dX6_recall_27 (by decide) ?_
      refine lv_iload_n hx hb dX6_recall_29 rfl (lv_at hl 1 rfl) ?_
      refine lv_imul hx hb dX6_recall_30 ?_
      refine lv_iadd hx hb dX6_recall_31 ?_
      refine lv_istore_n (lv' := [(3, .int (181 + (18 * p1))), (0, .ref (a 0)), (1, .int p1), (2, .int p2)]) hx hb dX6_recall_32 rfl hl (by decide) rfl (fun ls hl => ?_)
      refine lv_aload_n hx hb dX6_recall_33 rfl (lv_at hl 1 rfl) ?_
      refine va_get (D := (dC, dI)) (ci := 6) (v := .ref (a 1)) (C := RX6) (T := TX6) (N := 15) hx hb hts hin6 hown hK hP 0 rfl rfl 1 (by decide) (hts (.fieldLink RX6 7 "FeedDeskModel" "s" "[I") (List.mem_of_getElem? (i := 2) rfl)) (fun _ h9 => h9) rfl dX6_recall_34 ?_
      refine lv_iload_n hx hb dX6_recall_37 rfl (lv_at hl 0 rfl) ?_
      refine va_iald (f := Rn2 0) hx hb hK hP 1 0 rfl rfl (by rw [ep1]; exact vp_of_B (ix_17 ip1 hip1)) dX6_recall_38 ?_
      refine lv_if_ne (tgt := 45) hx hb dX6_recall_39 (by decide) (fun c15 => ?_) (fun c15 => ?_)
      · rw [if_neg c15] at hR
        refine lv_aload_n hx hb dX6_recall_45 rfl (lv_at hl 1 rfl) ?_
        have hPc : va_P (dC, dI) vwCl (cMd a cI Rn2) H12 := hP.sub [0, 1, 2, 3, 4, 5, 6] rfl
        have hDc : va_D (va_A (cMd a cI R) s.heap.size) (cMd a cI Rn2) := hD.sub [0, 1, 2, 3, 4, 5, 6] (by decide) rfl
        have hFc : ∀ q : Nat, va_A (cMd a cI Rn2) H12.size q → (va_A (cMd a cI R) s.heap.size) q := va_free hD hS hA [0, 1, 2, 3, 4, 5, 6] rfl
        refine va_callv (va_runV (As := []) (rest := []) ⟨hx, hb, hml, hown, hts⟩ (c_X6_act l dC dI cI cC cS a Rn2 H12.size ohv3) (cwV 0 hts gX6_recall_X6_act rfl rfl rfl (by decide +kernel) ⟨Nat.le_of_ble_eq_true rfl, Nat.le_of_ble_eq_true rfl⟩) (pV (q0 := 0) hK hPc hDc hN rfl rfl) rfl rfl hl.1 rfl (lv_room (Nat.le_of_ble_eq_true rfl)) dX6_recall_46 ⟨Nat.le_of_ble_eq_true rfl, Nat.le_of_ble_eq_true rfl⟩) hS (fun q _ h => hFc q h) hFc (fun u_16 t_16 H17 locs ht hvm hw hB hz1 hk1 hS => ?_)
        obtain ⟨hw, hens18, hens19, hens20, hens21⟩ := hw
        obtain ⟨hP1, hD1⟩ := hB
        rw [ht] at hP1
        subst hw
        obtain ⟨hP, hD⟩ := va_join (wc := cMd a cI Rn2) (wr := []) (w1 := cMd a cI (f_X6_act Rn2)) hP hD [0, 1, 2, 3, 4, 5, 6] [] rfl rfl (by decide) (by decide) hk1 hFc hP1 hD1
        have hP : va_P (dC, dI) vwCl (cMd a cI (f_X6_act Rn2)) H17 := hP.sub [0, 1, 2, 3, 4, 5, 6] rfl
        have hD : va_D (va_A (cMd a cI R) s.heap.size) (cMd a cI (f_X6_act Rn2)) := hD.sub [0, 1, 2, 3, 4, 5, 6] (by decide) rfl
        obtain ⟨Rn22, eRn22⟩ : ∃ z : SR, z = (f_X6_act Rn2) := ⟨_, rfl⟩
        rw [sLet_eq, ← eRn22] at hR
        rw [← eRn22] at hP hD
        have hI24 : RA Rn22 := (by rw [eRn22]; exact ra_eq hI4 hens18)
        have hs25 : RS Rn22 := (by rw [eRn22]; exact rs_eq0 hs5 hens18)
        refine lv_iconst (v := 0) hx hb dX6_recall_49 (by decide) ?_
        refine lv_istore (lv' := [(4, .int 0), (3, .int (181 + (18 * p1))), (0, .ref (a 0)), (1, .int p1), (2, .int p2)]) hx hb dX6_recall_50 hl (by decide) rfl (fun ls hl => ?_)
        refine lv_iconst (v := 0) hx hb dX6_recall_52 (by decide) ?_
        refine lv_istore (lv' := [(5, .int 0), (4, .int 0), (3, .int (181 + (18 * p1))), (0, .ref (a 0)), (1, .int p1), (2, .int p2)]) hx hb dX6_recall_53 hl (by decide) rfl (fun ls hl => ?_)
        have hL_55 : ∀ n_55 : Nat, ∀ (j_55 : Nat), ∀ (x3_55 : Int32) (x4_55 : Int32) (x5_55 : Int32) (R_55 : SR), x5_55 = nI j_55 → j_55 ≤ 16 → 16 < j_55 + n_55 → x3_55 = nI (181 + (18 * ip1)) → RA R_55 → RS R_55 → R0 = f_X6_recall_p55 p1 p2 n_55 x3_55 x4_55 x5_55 R_55 → ∀ (H : Heap) (locs : List Loc) (ls : Array Slot), va_P (dC, dI) vwCl (cMd a cI R_55) H → va_D (va_A (cMd a cI R) s.heap.size) (cMd a cI R_55) → va_S (va_A (cMd a cI R) s.heap.size) s.heap H locs → lv_has ls 6 [(0, .ref (a 0)), (1, .int p1), (2, .int p2), (3, .int x3_55), (4, .int x4_55), (5, .int x5_55)] → W p l e (headSpec wsX6_recall rm_X6_recall).room s m ([.ref (a 0), .int p1, .int p2] : List Value).toArray below meth c H locs 0 0 (MQ below (va_Qi (fun (r : Int32) (u : SR) => (r, u) = f_X6_recall R p1 p2 ∧ (RA u) ∧ (RS u)) (fun u U => va_P (dC, dI) vwCl (cMd a cI u) U.heap ∧ va_D (va_A (cMd a cI R) s.heap.size) (cMd a cI u)) (va_A (cMd a cI R) s.heap.size)) ([.ref (a 0), .int p1, .int p2] : List Value).toArray s 0 0 (va_A (cMd a cI R) s.heap.size)) (F0 m 55 ls []) := by
          intro n_55
          induction n_55 with
          | zero =>
            intro j_55 x3_55 x4_55 x5_55 R_55 ex5_55 hj0_55 hn_55 ex3_55 hI_55 hs_55
            exact absurd hn_55 (by omega)
          | succ n_55 ih_55 =>
            intro j_55 x3_55 x4_55 x5_55 R_55 ex5_55 hj0_55 hn_55 ex3_55 hI_55 hs_55 hR H locs ls hP hD hS hl
            rw [f_X6_recall_p55] at hR
            refine lv_iload hx hb dX6_recall_55 (lv_at hl 5 rfl) ?_
            refine lv_bipush (v := 16) hx hb dX6_recall_57 (by decide) ?_
            refine lv_icmp_ge (tgt := 102) hx hb dX6_recall_59 (by decide) (fun c26 => ?_) (fun c26 => ?_)
            · rw [if_pos c26] at hR
              refine lv_iload_n hx hb dX6_recall_102 rfl (lv_at hl 2 rfl) ?_
              refine lv_if_ne (tgt := 114) hx hb dX6_recall_103 (by decide) (fun c27 => ?_) (fun c27 => ?_)
              · rw [if_neg c27] at hR
                refine lv_aload_n hx hb dX6_recall_114 rfl (lv_at hl 0 rfl) ?_
                refine lv_iload_n hx hb dX6_recall_115 rfl (lv_at hl 3 rfl) ?_
                refine lv_iload_n hx hb dX6_recall_116 rfl (lv_at hl 2 rfl) ?_
                have hPc : va_P (dC, dI) vwCl (cMd a cI R_55) H := hP.sub [0, 1, 2, 3, 4, 5, 6] rfl
                have hDc : va_D (va_A (cMd a cI R) s.heap.size) (cMd a cI R_55) := hD.sub [0, 1, 2, 3, 4, 5, 6] (by decide) rfl
                have hFc : ∀ q : Nat, va_A (cMd a cI R_55) H.size q → (va_A (cMd a cI R) s.heap.size) q := va_free hD hS hA [0, 1, 2, 3, 4, 5, 6] rfl
                refine va_callv (va_runV (As := [.int x3_55, .int p2]) (rest := []) ⟨hx, hb, hml, hown, hts⟩ (c_X6_begin l dC dI cI cC cS a R_55 H.size x3_55 p2 (by rw [ex3_55]; exact vp_of_B (ix_63 (18 * ip1) hd10)) c27 hI_55) (cwV 2 hts gX6_recall_X6_begin rfl rfl rfl (by decide +kernel) ⟨Nat.le_of_ble_eq_true rfl, Nat.le_of_ble_eq_true rfl⟩) (pV (q0 := 0) hK hPc hDc hN rfl rfl) rfl rfl hl.1 rfl (lv_room (Nat.le_of_ble_eq_true rfl)) dX6_recall_117 ⟨Nat.le_of_ble_eq_true rfl, Nat.le_of_ble_eq_true rfl⟩) hS (fun q _ h => hFc q h) hFc (fun u_28 t_28 H29 locs ht hvm hw hB hz1 hk1 hS => ?_)
                obtain ⟨hw, hens30, hens31⟩ := hw
                obtain ⟨hP1, hD1⟩ := hB
                rw [ht] at hP1
                subst hw
                obtain ⟨hP, hD⟩ := va_join (wc := cMd a cI R_55) (wr := []) (w1 := cMd a cI (f_X6_begin R_55 x3_55 p2)) hP hD [0, 1, 2, 3, 4, 5, 6] [] rfl rfl (by decide) (by decide) hk1 hFc hP1 hD1
                have hP : va_P (dC, dI) vwCl (cMd a cI (f_X6_begin R_55 x3_55 p2)) H29 := hP.sub [0, 1, 2, 3, 4, 5, 6] rfl
                have hD : va_D (va_A (cMd a cI R) s.heap.size) (cMd a cI (f_X6_begin R_55 x3_55 p2)) := hD.sub [0, 1, 2, 3, 4, 5, 6] (by decide) rfl
                obtain ⟨Rn32, eRn32⟩ : ∃ z : SR, z = (f_X6_begin R_55 x3_55 p2) := ⟨_, rfl⟩
                rw [sLet_eq, ← eRn32] at hR
                rw [← eRn32] at hP hD
                have hI34 : RA Rn32 := by rw [eRn32]; exact hens30
                have hs35 : RS Rn32 := by rw [eRn32]; exact hens31
                refine lv_iload hx hb dX6_recall_120 (lv_at hl 4 rfl) ?_
                exact W.iret (v := x4_55) hx hb hr (fun t ht hWw => ⟨⟨x4_55, Rn32, rfl, ⟨hR.symm.trans eR, hI34, hs35⟩, by rw [ht]; exact hP, hD⟩, hS.F ht⟩) hS.2.2 dX6_recall_122
              · rw [if_pos c27] at hR
                refine lv_aload_n hx hb dX6_recall_106 rfl (lv_at hl 0 rfl) ?_
                refine lv_iload_n hx hb dX6_recall_107 rfl (lv_at hl 3 rfl) ?_
                have hPc : va_P (dC, dI) vwCl (cMd a cI R_55) H := hP.sub [0, 1, 2, 3, 4, 5, 6] rfl
                have hDc : va_D (va_A (cMd a cI R) s.heap.size) (cMd a cI R_55) := hD.sub [0, 1, 2, 3, 4, 5, 6] (by decide) rfl
                have hFc : ∀ q : Nat, va_A (cMd a cI R_55) H.size q → (va_A (cMd a cI R) s.heap.size) q := va_free hD hS hA [0, 1, 2, 3, 4, 5, 6] rfl
                refine va_callv (va_runV (As := [.int x3_55]) (rest := []) ⟨hx, hb, hml, hown, hts⟩ (c_X6_jump l dC dI cI cC cS a R_55 H.size x3_55 (by rw [ex3_55]; exact vp_of_B (ix_63 (18 * ip1) hd10)) hI_55 hs_55) (cwV 1 hts gX6_recall_X6_jump rfl rfl rfl (by decide +kernel) ⟨Nat.le_of_ble_eq_true rfl, Nat.le_of_ble_eq_true rfl⟩) (pV (q0 := 0) hK hPc hDc hN rfl rfl) rfl rfl hl.1 rfl (lv_room (Nat.le_of_ble_eq_true rfl)) dX6_recall_108 ⟨Nat.le_of_ble_eq_true rfl, Nat.le_of_ble_eq_true rfl⟩) hS (fun q _ h => hFc q h) hFc (fun u_36 t_36 H37 locs ht hvm hw hB hz1 hk1 hS => ?_)
                obtain ⟨hw, hens38, hens39⟩ := hw
                obtain ⟨hP1, hD1⟩ := hB
                rw [ht] at hP1
                subst hw
                obtain ⟨hP, hD⟩ := va_join (wc := cMd a cI R_55) (wr := []) (w1 := cMd a cI (f_X6_jump R_55 x3_55)) hP hD [0, 1, 2, 3, 4, 5, 6] [] rfl rfl (by decide) (by decide) hk1 hFc hP1 hD1
                have hP : va_P (dC, dI) vwCl (cMd a cI (f_X6_jump R_55 x3_55)) H37 := hP.sub [0, 1, 2, 3, 4, 5, 6] rfl
                have hD : va_D (va_A (cMd a cI R) s.heap.size) (cMd a cI (f_X6_jump R_55 x3_55)) := hD.sub [0, 1, 2, 3, 4, 5, 6] (by decide) rfl
                obtain ⟨Rn40, eRn40⟩ : ∃ z : SR, z = (f_X6_jump R_55 x3_55) := ⟨_, rfl⟩
                rw [sLet_eq, ← eRn40] at hR
                rw [← eRn40] at hP hD
                have hI42 : RA Rn40 := by rw [eRn40]; exact hens38
                have hs43 : RS Rn40 := by rw [eRn40]; exact hens39
                refine lv_goto (tgt := 120) hx hb dX6_recall_111 (by decide) ?_
                refine lv_iload hx hb dX6_recall_120 (lv_at hl 4 rfl) ?_
                exact W.iret (v := x4_55) hx hb hr (fun t ht hWw => ⟨⟨x4_55, Rn40, rfl, ⟨hR.symm.trans eR, hI42, hs43⟩, by rw [ht]; exact hP, hD⟩, hS.F ht⟩) hS.2.2 dX6_recall_122
            · rw [if_neg c26] at hR
              have hj_55 : j_55 < 16 := lp_ge ex5_55 (by decide +kernel) (by omega) (by omega) c26
              refine lv_iload hx hb dX6_recall_62 (lv_at hl 4 rfl) ?_
              refine lv_aload_n hx hb dX6_recall_64 rfl (lv_at hl 0 rfl) ?_
              refine va_get (D := (dC, dI)) (ci := 6) (v := .ref (a 1)) (C := RX6) (T := TX6) (N := 15) hx hb hts hin6 hown hK hP 0 rfl rfl 1 (by decide) (hts (.fieldLink RX6 7 "FeedDeskModel" "s" "[I") (List.mem_of_getElem? (i := 2) rfl)) (fun _ h9 => h9) rfl dX6_recall_65 ?_
              refine lv_iload hx hb dX6_recall_68 (lv_at hl 5 rfl) ?_
              have hFc : ∀ q : Nat, va_A [] H.size q → (va_A (cMd a cI R) s.heap.size) q := roF hS hA
              refine va_calli (va_runS (As := [.int x5_55]) (rest := [.ref (a 1), .int x4_55]) ⟨hx, hb, hml, hown, hts⟩ (c_X6_at l dC dI cI cC cS H.size x5_55) (va_cwS 1 hts gX6_recall_X6_at rfl rfl rfl (by decide +kernel) ⟨Nat.le_of_ble_eq_true rfl, Nat.le_of_ble_eq_true rfl⟩) (pS hK (va_P_nil) (va_D_nil) hN) rfl rfl hl.1 rfl (lv_room (Nat.le_of_ble_eq_true rfl)) dX6_recall_70 ⟨Nat.le_of_ble_eq_true rfl, Nat.le_of_ble_eq_true rfl⟩) hS (fun q _ h => hFc q h) hFc (fun r_44 u_44 t_44 H45 locs ht hvm hw hB hz1 hk1 hS => ?_)
              subst hw
              have hP := ro_keep hP hk1
              refine va_iald (f := R_55 0) hx hb hK hP 1 0 rfl rfl (by rw [ex5_55]; exact vp_of_B (ix_24 j_55 hj_55)) dX6_recall_73 ?_
              refine lv_aload_n hx hb dX6_recall_74 rfl (lv_at hl 0 rfl) ?_
              refine va_get (D := (dC, dI)) (ci := 6) (v := .ref (a 1)) (C := RX6) (T := TX6) (N := 15) hx hb hts hin6 hown hK hP 0 rfl rfl 1 (by decide) (hts (.fieldLink RX6 7 "FeedDeskModel" "s" "[I") (List.mem_of_getElem? (i := 2) rfl)) (fun _ h9 => h9) rfl dX6_recall_75 ?_
              refine lv_iload_n hx hb dX6_recall_78 rfl (lv_at hl 3 rfl) ?_
              refine lv_iconst (v := 1) hx hb dX6_recall_79 (by decide) ?_
              refine lv_iadd hx hb dX6_recall_80 ?_
              refine lv_iload hx hb dX6_recall_81 (lv_at hl 5 rfl) ?_
              refine lv_iadd hx hb dX6_recall_83 ?_
              refine va_iald (f := R_55 0) hx hb hK hP 1 0 rfl rfl (by rw [ex3_55, ex5_55]; exact vp_of_B (ix_53 (18 * ip1) hd10 j_55 hj_55)) dX6_recall_84 ?_
              refine lv_icmp_eq (tgt := 92) hx hb dX6_recall_85 (by decide) (fun c46 => ?_) (fun c46 => ?_)
              · rw [if_pos c46] at hR
                refine lv_iconst (v := 0) hx hb dX6_recall_92 (by decide) ?_
                refine lv_iadd hx hb dX6_recall_93 ?_
                refine lv_istore (lv' := [(4, .int (x4_55 + 0)), (0, .ref (a 0)), (1, .int p1), (2, .int p2), (3, .int x3_55), (5, .int x5_55)]) hx hb dX6_recall_94 hl (by decide) rfl (fun ls hl => ?_)
                refine lv_iinc (v := x5_55 + 1) (lv' := [(5, .int (x5_55 + 1)), (4, .int (x4_55 + 0)), (0, .ref (a 0)), (1, .int p1), (2, .int p2), (3, .int x3_55)]) hx hb dX6_recall_96 hl (k := 5) rfl rfl (by decide) rfl (fun ls hl => ?_)
                refine lv_goto (tgt := 55) hx hb dX6_recall_99 (by decide) ?_
                exact ih_55 (j_55 + 1) x3_55 (x4_55 + 0) (x5_55 + 1) R_55 (by rw [ex5_55, nI_1]) (by omega) (by omega) ex3_55 hI_55 hs_55 hR _ _ _ hP hD hS (lv_sub hl [2, 3, 4, 5, 1, 0] rfl)
              · rw [if_neg c46] at hR
                refine lv_iconst (v := 1) hx hb dX6_recall_88 (by decide) ?_
                refine lv_goto (tgt := 93) hx hb dX6_recall_89 (by decide) ?_
                refine lv_iadd hx hb dX6_recall_93 ?_
                refine lv_istore (lv' := [(4, .int (x4_55 + 1)), (0, .ref (a 0)), (1, .int p1), (2, .int p2), (3, .int x3_55), (5, .int x5_55)]) hx hb dX6_recall_94 hl (by decide) rfl (fun ls hl => ?_)
                refine lv_iinc (v := x5_55 + 1) (lv' := [(5, .int (x5_55 + 1)), (4, .int (x4_55 + 1)), (0, .ref (a 0)), (1, .int p1), (2, .int p2), (3, .int x3_55)]) hx hb dX6_recall_96 hl (k := 5) rfl rfl (by decide) rfl (fun ls hl => ?_)
                refine lv_goto (tgt := 55) hx hb dX6_recall_99 (by decide) ?_
                exact ih_55 (j_55 + 1) x3_55 (x4_55 + 1) (x5_55 + 1) R_55 (by rw [ex5_55, nI_1]) (by omega) (by omega) ex3_55 hI_55 hs_55 hR _ _ _ hP hD hS (lv_sub hl [2, 3, 4, 5, 1, 0] rfl)
        exact hL_55 17 0 (181 + (18 * p1)) 0 0 Rn22 (by decide +kernel) (by decide) (by decide) ed10 hI24 hs25 hR _ _ _ hP hD hS (lv_sub hl [3, 4, 5, 2, 1, 0] rfl)
      · rw [if_pos c15] at hR
        refine lv_bipush (v := (-2)) hx hb dX6_recall_42 (by decide) ?_
        exact W.iret (v := (-2)) hx hb hr (fun t ht hWw => ⟨⟨(-2), Rn2, rfl, ⟨hR.symm.trans eR, hI4, hs5⟩, by rw [ht]; exact hP, hD⟩, hS.F ht⟩) hS.2.2 dX6_recall_44
    · rw [if_pos c14] at hR
      refine lv_iconst (v := (-1)) hx hb dX6_recall_22 (by decide) ?_
      exact W.iret (v := (-1)) hx hb hr (fun t ht hWw => ⟨⟨(-1), Rn2, rfl, ⟨hR.symm.trans eR, hI4, hs5⟩, by rw [ht]; exact hP, hD⟩, hS.F ht⟩) hS.2.2 dX6_recall_23
abbrev rm_X6_run : Room := { frames := 5, cells := 0, slots := 0, locals := 111 }
def f_X6_run_p42 (p1 : Int32)  : Nat → Int32 → SR → (Int32 × SR)
  | 0, _, R_42 => (0, R_42)
  | n_42 + 1, x2_42, R_42 => (if p1 ≤ x2_42 then (R_42 0 141, R_42) else sLet ((f_X6_tick R_42)) (fun Rn27 : SR => (f_X6_run_p42 p1 n_42) (x2_42 + 1) Rn27))
def f_X6_run (R : SR) (p1 : Int32) : Int32 × SR := sLet (sU R 6 0 0) (fun Rn2 : SR => (if (f_X6_in p1 1 100) = 0 then ((-1), Rn2) else (if ((Rn2 0 140) + p1) ≤ 10000 then sLet ((f_X6_act Rn2)) (fun Rn17 : SR => f_X6_run_p42 p1 (p1.toNatClampNeg + 1) 0 Rn17) else ((-3), Rn2))))
set_option maxHeartbeats 4000000 in
set_option maxRecDepth 100000 in
theorem c_X6_run (l : Launch) (dC : Nat → ClassId) (dI : Nat → Nat → Nat) (cI cC cS : ClassId) (a : Nat → Nat) (R : SR) (sz : Nat) (p1 : Int32) (ohv : vp_in (R 6 1) 6) (hI : RA R) (hs : RS R) : Met l yX6_run wsX6_run rm_X6_run (PcG (dC, dI) (tyL cI cC cS) (cMd a cI R) sz [.ref (a 0), .int p1]) (va_Qi (fun (r : Int32) (u : SR) => (r, u) = f_X6_run R p1 ∧ (RA u) ∧ (RS u)) (fun u U => va_P (dC, dI) vwCl (cMd a cI u) U.heap ∧ va_D (va_A (cMd a cI R) sz) (cMd a cI u)) (va_A (cMd a cI R) sz)) 0 0 (va_A (cMd a cI R) sz) := by
  refine Met.ofW (cc := cX6_run) (maxL := 3) (ret := (some .int)) (by decide) rfl ?_
  intro p e s m args below meth c s₁ B hml hv
  obtain ⟨rfl, hsz, hP, hK, hD0, hN⟩ := hv
  have hx := B.exec
  have hb := B.bytes
  have hr := B.returns
  have hts := atoms_spec (ws := wsX6_run) B.pre
  have hown : s.vm.findClass RX6 = some m.cls := findClass_of_methodNamed B.named
  have hlocks := B.notSynchronized
  subst hsz
  have hD := hD0.self (sz := s.heap.size)
  have hA : ∀ q : Nat, s.heap.size ≤ q → (va_A (cMd a cI R) s.heap.size) q := fun q h => Or.inr h
  have hS : va_S (va_A (cMd a cI R) s.heap.size) s.heap s.heap [] := va_S.rf
  have hin6 : ∀ w ∈ wsX60, w ∈ wsX6_run := fun _ h => List.mem_cons_of_mem _ (List.mem_append_right _ h)
  have hl := lv_entry [.ref (a 0), .int p1] (n := 3) (Nat.le_of_ble_eq_true rfl)
  rw [lg_entry_eq]
  generalize (lg_sl [.ref (a 0), .int p1] ++ List.replicate (3 - (lg_sl [.ref (a 0), .int p1]).length) Slot.unset).toArray = ls at hl ⊢
  have hl : lv_has ls 3 [(0, .ref (a 0)), (1, .int p1)] := hl
  obtain ⟨R0, eR⟩ : ∃ z, z = f_X6_run R p1 := ⟨_, rfl⟩
  have hR := eR
  rw [f_X6_run] at hR
  refine lv_aload_n hx hb dX6_run_0 rfl (lv_at hl 0 rfl) ?_
  refine lv_iconst (v := 0) hx hb dX6_run_1 (by decide) ?_
  refine va_put (D := (dC, dI)) (ci := 6) (v := .int 0) (ty := .int) (C := RX6) (T := TX6) (N := 15) hx hb hts hin6 tyX6 tyX6_ok nmX6 hown hK hP hD hS 0 rfl rfl 0 (by decide) (hts (.fieldLink RX6 28 "FeedDeskModel" "thrown" "I") (List.mem_of_getElem? (i := 1) rfl)) (fun _ h9 => h9) rfl (by decide +kernel) rfl rfl (Nat.le_of_ble_eq_true rfl) dX6_run_2 (fun H1 locs hP hD hS => ?_)
  have hP : va_P (dC, dI) vwCl (cMd a cI (sU R 6 0 0)) H1 := hP
  have hD : va_D (va_A (cMd a cI R) s.heap.size) (cMd a cI (sU R 6 0 0)) := hD
  obtain ⟨Rn2, eRn2⟩ : ∃ z : SR, z = sU R 6 0 0 := ⟨_, rfl⟩
  rw [sLet_eq, ← eRn2] at hR
  rw [← eRn2] at hP hD
  have ohv3 : vp_in (Rn2 6 1) 6 := (by rw [eRn2]; exact ohv)
  have hI4 : RA Rn2 := (by rw [eRn2]; exact hI)
  have hs5 : RS Rn2 := (by rw [eRn2]; exact hs)
  refine lv_iload_n hx hb dX6_run_5 rfl (lv_at hl 1 rfl) ?_
  refine lv_iconst (v := 1) hx hb dX6_run_6 (by decide) ?_
  refine lv_bipush (v := 100) hx hb dX6_run_7 (by decide) ?_
  have hFc : ∀ q : Nat, va_A [] H1.size q → (va_A (cMd a cI R) s.heap.size) q := roF hS hA
  refine va_calli (va_runS (As := [.int p1, .int 1, .int 100]) (rest := []) ⟨hx, hb, hml, hown, hts⟩ (c_X6_in l dC dI cI cC cS H1.size p1 1 100) (va_cwS 3 hts gX6_run_X6_in rfl rfl rfl (by decide +kernel) ⟨Nat.le_of_ble_eq_true rfl, Nat.le_of_ble_eq_true rfl⟩) (pS hK (va_P_nil) (va_D_nil) hN) rfl rfl hl.1 rfl (lv_room (Nat.le_of_ble_eq_true rfl)) dX6_run_9 ⟨Nat.le_of_ble_eq_true rfl, Nat.le_of_ble_eq_true rfl⟩) hS (fun q _ h => hFc q h) hFc (fun r_6 u_6 t_6 H7 locs ht hvm hw hB hz1 hk1 hS => ?_)
  obtain ⟨hw, hre8⟩ := hw
  subst hw
  have hP := ro_keep hP hk1
  refine lv_if_ne (tgt := 17) hx hb dX6_run_12 (by decide) (fun c9 => ?_) (fun c9 => ?_)
  · rw [if_neg c9] at hR
    obtain ⟨ip1, hip1, ep1⟩ := vp_in_of (in_vp (n := 100) c9 (by decide)) (by decide)
    refine lv_aload_n hx hb dX6_run_17 rfl (lv_at hl 0 rfl) ?_
    refine va_get (D := (dC, dI)) (ci := 6) (v := .ref (a 1)) (C := RX6) (T := TX6) (N := 15) hx hb hts hin6 hown hK hP 0 rfl rfl 1 (by decide) (hts (.fieldLink RX6 7 "FeedDeskModel" "s" "[I") (List.mem_of_getElem? (i := 2) rfl)) (fun _ h9 => h9) rfl dX6_run_18 ?_
    refine lv_sipush (v := 140) hx hb dX6_run_21 (by decide) ?_
    refine va_iald (f := Rn2 0) hx hb hK hP 1 0 rfl rfl (vp_of_B (by decide +kernel : vp_okB (140) 289 = true)) dX6_run_24 ?_
    refine lv_eqi (y := Rn2 0 140) rfl ?_
    refine lv_iload_n hx hb dX6_run_25 rfl (lv_at hl 1 rfl) ?_
    refine lv_iadd hx hb dX6_run_26 ?_
    refine lv_sipush (v := 10000) hx hb dX6_run_27 (by decide) ?_
    refine lv_icmp_le (tgt := 36) hx hb dX6_run_30 (by decide) (fun c10 => ?_) (fun c10 => ?_)
    · rw [if_pos c10] at hR
      refine lv_aload_n hx hb dX6_run_36 rfl (lv_at hl 0 rfl) ?_
      have hPc : va_P (dC, dI) vwCl (cMd a cI Rn2) H7 := hP.sub [0, 1, 2, 3, 4, 5, 6] rfl
      have hDc : va_D (va_A (cMd a cI R) s.heap.size) (cMd a cI Rn2) := hD.sub [0, 1, 2, 3, 4, 5, 6] (by decide) rfl
      have hFc : ∀ q : Nat, va_A (cMd a cI Rn2) H7.size q → (va_A (cMd a cI R) s.heap.size) q := va_free hD hS hA [0, 1, 2, 3, 4, 5, 6] rfl
      refine va_callv (va_runV (As := []) (rest := []) ⟨hx, hb, hml, hown, hts⟩ (c_X6_act l dC dI cI cC cS a Rn2 H7.size ohv3) (cwV 0 hts gX6_run_X6_act rfl rfl rfl (by decide +kernel) ⟨Nat.le_of_ble_eq_true rfl, Nat.le_of_ble_eq_true rfl⟩) (pV (q0 := 0) hK hPc hDc hN rfl rfl) rfl rfl hl.1 rfl (lv_room (Nat.le_of_ble_eq_true rfl)) dX6_run_37 ⟨Nat.le_of_ble_eq_true rfl, Nat.le_of_ble_eq_true rfl⟩) hS (fun q _ h => hFc q h) hFc (fun u_11 t_11 H12 locs ht hvm hw hB hz1 hk1 hS => ?_)
      obtain ⟨hw, hens13, hens14, hens15, hens16⟩ := hw
      obtain ⟨hP1, hD1⟩ := hB
      rw [ht] at hP1
      subst hw
      obtain ⟨hP, hD⟩ := va_join (wc := cMd a cI Rn2) (wr := []) (w1 := cMd a cI (f_X6_act Rn2)) hP hD [0, 1, 2, 3, 4, 5, 6] [] rfl rfl (by decide) (by decide) hk1 hFc hP1 hD1
      have hP : va_P (dC, dI) vwCl (cMd a cI (f_X6_act Rn2)) H12 := hP.sub [0, 1, 2, 3, 4, 5, 6] rfl
      have hD : va_D (va_A (cMd a cI R) s.heap.size) (cMd a cI (f_X6_act Rn2)) := hD.sub [0, 1, 2, 3, 4, 5, 6] (by decide) rfl
      obtain ⟨Rn17, eRn17⟩ : ∃ z : SR, z = (f_X6_act Rn2) := ⟨_, rfl⟩
      rw [sLet_eq, ← eRn17] at hR
      rw [← eRn17] at hP hD
      have hI19 : RA Rn17 := (by rw [eRn17]; exact ra_eq hI4 hens13)
      have hs20 : RS Rn17 := (by rw [eRn17]; exact rs_eq0 hs5 hens13)
      refine lv_iconst (v := 0) hx hb dX6_run_40 (by decide) ?_
      refine lv_istore_n (lv' := [(2, .int 0), (0, .ref (a 0)), (1, .int p1)]) hx hb dX6_run_41 rfl hl (by decide) rfl (fun ls hl => ?_)
      have hL_42 : ∀ n_42 : Nat, ∀ (j_42 : Nat), ∀ (x2_42 : Int32) (R_42 : SR), x2_42 = nI j_42 → j_42 ≤ ip1 → ip1 < j_42 + n_42 → RA R_42 → RS R_42 → R0 = f_X6_run_p42 p1 n_42 x2_42 R_42 → ∀ (H : Heap) (locs : List Loc) (ls : Array Slot), va_P (dC, dI) vwCl (cMd a cI R_42) H → va_D (va_A (cMd a cI R) s.heap.size) (cMd a cI R_42) → va_S (va_A (cMd a cI R) s.heap.size) s.heap H locs → lv_has ls 3 [(0, .ref (a 0)), (1, .int p1), (2, .int x2_42)] → W p l e (headSpec wsX6_run rm_X6_run).room s m ([.ref (a 0), .int p1] : List Value).toArray below meth c H locs 0 0 (MQ below (va_Qi (fun (r : Int32) (u : SR) => (r, u) = f_X6_run R p1 ∧ (RA u) ∧ (RS u)) (fun u U => va_P (dC, dI) vwCl (cMd a cI u) U.heap ∧ va_D (va_A (cMd a cI R) s.heap.size) (cMd a cI u)) (va_A (cMd a cI R) s.heap.size)) ([.ref (a 0), .int p1] : List Value).toArray s 0 0 (va_A (cMd a cI R) s.heap.size)) (F0 m 42 ls []) := by
        intro n_42
        induction n_42 with
        | zero =>
          intro j_42 x2_42 R_42 ex2_42 hj0_42 hn_42 hI_42 hs_42
          exact absurd hn_42 (by omega)
        | succ n_42 ih_42 =>
          intro j_42 x2_42 R_42 ex2_42 hj0_42 hn_42 hI_42 hs_42 hR H locs ls hP hD hS hl
          rw [f_X6_run_p42] at hR
          refine lv_iload_n hx hb dX6_run_42 rfl (lv_at hl 2 rfl) ?_
          refine lv_iload_n hx hb dX6_run_43 rfl (lv_at hl 1 rfl) ?_
          refine lv_icmp_ge (tgt := 57) hx hb dX6_run_44 (by decide) (fun c21 => ?_) (fun c21 => ?_)
          · rw [if_pos c21] at hR
            refine lv_aload_n hx hb dX6_run_57 rfl (lv_at hl 0 rfl) ?_
            refine va_get (D := (dC, dI)) (ci := 6) (v := .ref (a 1)) (C := RX6) (T := TX6) (N := 15) hx hb hts hin6 hown hK hP 0 rfl rfl 1 (by decide) (hts (.fieldLink RX6 7 "FeedDeskModel" "s" "[I") (List.mem_of_getElem? (i := 2) rfl)) (fun _ h9 => h9) rfl dX6_run_58 ?_
            refine lv_sipush (v := 141) hx hb dX6_run_61 (by decide) ?_
            refine va_iald (f := R_42 0) hx hb hK hP 1 0 rfl rfl (vp_of_B (by decide +kernel : vp_okB (141) 289 = true)) dX6_run_64 ?_
            refine lv_eqi (y := R_42 0 141) rfl ?_
            exact W.iret (v := R_42 0 141) hx hb hr (fun t ht hWw => ⟨⟨R_42 0 141, R_42, rfl, ⟨hR.symm.trans eR, hI_42, hs_42⟩, by rw [ht]; exact hP, hD⟩, hS.F ht⟩) hS.2.2 dX6_run_65
          · rw [if_neg c21] at hR
            have hj_42 : j_42 < ip1 := lp_ge ex2_42 ep1 (by omega) (by omega) c21
            refine lv_aload_n hx hb dX6_run_47 rfl (lv_at hl 0 rfl) ?_
            have hPc : va_P (dC, dI) vwCl (cMd a cI R_42) H := hP.sub [0, 1, 2, 3, 4, 5, 6] rfl
            have hDc : va_D (va_A (cMd a cI R) s.heap.size) (cMd a cI R_42) := hD.sub [0, 1, 2, 3, 4, 5, 6] (by decide) rfl
            have hFc : ∀ q : Nat, va_A (cMd a cI R_42) H.size q → (va_A (cMd a cI R) s.heap.size) q := va_free hD hS hA [0, 1, 2, 3, 4, 5, 6] rfl
            refine va_callv (va_runV (As := []) (rest := []) ⟨hx, hb, hml, hown, hts⟩ (c_X6_tick l dC dI cI cC cS a R_42 H.size hI_42 hs_42) (cwV 0 hts gX6_run_X6_tick rfl rfl rfl (by decide +kernel) ⟨Nat.le_of_ble_eq_true rfl, Nat.le_of_ble_eq_true rfl⟩) (pV (q0 := 0) hK hPc hDc hN rfl rfl) rfl rfl hl.1 rfl (lv_room (Nat.le_of_ble_eq_true rfl)) dX6_run_48 ⟨Nat.le_of_ble_eq_true rfl, Nat.le_of_ble_eq_true rfl⟩) hS (fun q _ h => hFc q h) hFc (fun u_22 t_22 H23 locs ht hvm hw hB hz1 hk1 hS => ?_)
            obtain ⟨hw, hens24, hens25, hens26⟩ := hw
            obtain ⟨hP1, hD1⟩ := hB
            rw [ht] at hP1
            subst hw
            obtain ⟨hP, hD⟩ := va_join (wc := cMd a cI R_42) (wr := []) (w1 := cMd a cI (f_X6_tick R_42)) hP hD [0, 1, 2, 3, 4, 5, 6] [] rfl rfl (by decide) (by decide) hk1 hFc hP1 hD1
            have hP : va_P (dC, dI) vwCl (cMd a cI (f_X6_tick R_42)) H23 := hP.sub [0, 1, 2, 3, 4, 5, 6] rfl
            have hD : va_D (va_A (cMd a cI R) s.heap.size) (cMd a cI (f_X6_tick R_42)) := hD.sub [0, 1, 2, 3, 4, 5, 6] (by decide) rfl
            obtain ⟨Rn27, eRn27⟩ : ∃ z : SR, z = (f_X6_tick R_42) := ⟨_, rfl⟩
            rw [sLet_eq, ← eRn27] at hR
            rw [← eRn27] at hP hD
            have hI29 : RA Rn27 := by rw [eRn27]; exact hens24
            have hs30 : RS Rn27 := by rw [eRn27]; exact hens25
            have hq31 : FX R_42 Rn27 := by rw [eRn27]; exact hens26
            refine lv_iinc (v := x2_42 + 1) (lv' := [(2, .int (x2_42 + 1)), (0, .ref (a 0)), (1, .int p1)]) hx hb dX6_run_51 hl (k := 2) rfl rfl (by decide) rfl (fun ls hl => ?_)
            refine lv_goto (tgt := 42) hx hb dX6_run_54 (by decide) ?_
            exact ih_42 (j_42 + 1) (x2_42 + 1) Rn27 (by rw [ex2_42, nI_1]) (by omega) (by omega) hI29 hs30 hR _ _ _ hP hD hS (lv_sub hl [1, 2, 0] rfl)
      exact hL_42 (p1.toNatClampNeg + 1) 0 0 Rn17 (by decide +kernel) (Nat.zero_le _) (by rw [ep1, nI_clamp (by omega)]; omega) hI19 hs20 hR _ _ _ hP hD hS (lv_sub hl [1, 2, 0] rfl)
    · rw [if_neg c10] at hR
      refine lv_bipush (v := (-3)) hx hb dX6_run_33 (by decide) ?_
      exact W.iret (v := (-3)) hx hb hr (fun t ht hWw => ⟨⟨(-3), Rn2, rfl, ⟨hR.symm.trans eR, hI4, hs5⟩, by rw [ht]; exact hP, hD⟩, hS.F ht⟩) hS.2.2 dX6_run_35
  · rw [if_pos c9] at hR
    refine lv_iconst (v := (-1)) hx hb dX6_run_15 (by decide) ?_
    exact W.iret (v := (-1)) hx hb hr (fun t ht hWw => ⟨⟨(-1), Rn2, rfl, ⟨hR.symm.trans eR, hI4, hs5⟩, by rw [ht]; exact hP, hD⟩, hS.F ht⟩) hS.2.2 dX6_run_16
abbrev rm_X6_outputIn : Room := { frames := 5, cells := 0, slots := 0, locals := 111 }
def f_X6_outputIn_p30 (p1 : Int32) (p2 : Int32)  : Nat → Int32 → SR → (Int32 × SR)
  | 0, _, R_30 => (0, R_30)
  | n_30 + 1, x3_30, R_30 => (if p2 ≤ x3_30 then sLet ((f_X6_release R_30)) (fun Rn31 : SR => (R_30 0 (136 + p1).toNatClampNeg, Rn31)) else sLet ((f_X6_tick R_30)) (fun Rn39 : SR => (f_X6_outputIn_p30 p1 p2 n_30) (x3_30 + 1) Rn39))
def f_X6_outputIn (R : SR) (p1 : Int32) (p2 : Int32) : Int32 × SR := sLet (sU R 6 0 0) (fun Rn2 : SR => (if (f_X6_isFour p1) = 0 then ((-1), Rn2) else (if (f_X6_in p2 0 100) = 0 then ((-1), Rn2) else sLet ((f_X6_hold Rn2)) (fun Rn20 : SR => f_X6_outputIn_p30 p1 p2 (p2.toNatClampNeg + 1) 0 Rn20))))
set_option maxHeartbeats 4000000 in
set_option maxRecDepth 100000 in
theorem c_X6_outputIn (l : Launch) (dC : Nat → ClassId) (dI : Nat → Nat → Nat) (cI cC cS : ClassId) (a : Nat → Nat) (R : SR) (sz : Nat) (p1 : Int32) (p2 : Int32) (hI : RA R) (hs : RS R) : Met l yX6_outputIn wsX6_outputIn rm_X6_outputIn (PcG (dC, dI) (tyL cI cC cS) (cMd a cI R) sz [.ref (a 0), .int p1, .int p2]) (va_Qi (fun (r : Int32) (u : SR) => (r, u) = f_X6_outputIn R p1 p2) (fun u U => va_P (dC, dI) vwCl (cMd a cI u) U.heap ∧ va_D (va_A (cMd a cI R) sz) (cMd a cI u)) (va_A (cMd a cI R) sz)) 0 0 (va_A (cMd a cI R) sz) := by
  refine Met.ofW (cc := cX6_outputIn) (maxL := 4) (ret := (some .int)) (by decide) rfl ?_
  intro p e s m args below meth c s₁ B hml hv
  obtain ⟨rfl, hsz, hP, hK, hD0, hN⟩ := hv
  have hx := B.exec
  have hb := B.bytes
  have hr := B.returns
  have hts := atoms_spec (ws := wsX6_outputIn) B.pre
  have hown : s.vm.findClass RX6 = some m.cls := findClass_of_methodNamed B.named
  have hlocks := B.notSynchronized
  subst hsz
  have hD := hD0.self (sz := s.heap.size)
  have hA : ∀ q : Nat, s.heap.size ≤ q → (va_A (cMd a cI R) s.heap.size) q := fun q h => Or.inr h
  have hS : va_S (va_A (cMd a cI R) s.heap.size) s.heap s.heap [] := va_S.rf
  have hin6 : ∀ w ∈ wsX60, w ∈ wsX6_outputIn := fun _ h => List.mem_cons_of_mem _ (List.mem_append_right _ h)
  have hl := lv_entry [.ref (a 0), .int p1, .int p2] (n := 4) (Nat.le_of_ble_eq_true rfl)
  rw [lg_entry_eq]
  generalize (lg_sl [.ref (a 0), .int p1, .int p2] ++ List.replicate (4 - (lg_sl [.ref (a 0), .int p1, .int p2]).length) Slot.unset).toArray = ls at hl ⊢
  have hl : lv_has ls 4 [(0, .ref (a 0)), (1, .int p1), (2, .int p2)] := hl
  obtain ⟨R0, eR⟩ : ∃ z, z = f_X6_outputIn R p1 p2 := ⟨_, rfl⟩
  have hR := eR
  rw [f_X6_outputIn] at hR
  refine lv_aload_n hx hb dX6_outputIn_0 rfl (lv_at hl 0 rfl) ?_
  refine lv_iconst (v := 0) hx hb dX6_outputIn_1 (by decide) ?_
  refine va_put (D := (dC, dI)) (ci := 6) (v := .int 0) (ty := .int) (C := RX6) (T := TX6) (N := 15) hx hb hts hin6 tyX6 tyX6_ok nmX6 hown hK hP hD hS 0 rfl rfl 0 (by decide) (hts (.fieldLink RX6 28 "FeedDeskModel" "thrown" "I") (List.mem_of_getElem? (i := 1) rfl)) (fun _ h9 => h9) rfl (by decide +kernel) rfl rfl (Nat.le_of_ble_eq_true rfl) dX6_outputIn_2 (fun H1 locs hP hD hS => ?_)
  have hP : va_P (dC, dI) vwCl (cMd a cI (sU R 6 0 0)) H1 := hP
  have hD : va_D (va_A (cMd a cI R) s.heap.size) (cMd a cI (sU R 6 0 0)) := hD
  obtain ⟨Rn2, eRn2⟩ : ∃ z : SR, z = sU R 6 0 0 := ⟨_, rfl⟩
  rw [sLet_eq, ← eRn2] at hR
  rw [← eRn2] at hP hD
  have oi3 : RA Rn2 := (by rw [eRn2]; exact hI)
  have os4 : RS Rn2 := (by rw [eRn2]; exact hs)
  refine lv_iload_n hx hb dX6_outputIn_5 rfl (lv_at hl 1 rfl) ?_
  have hFc : ∀ q : Nat, va_A [] H1.size q → (va_A (cMd a cI R) s.heap.size) q := roF hS hA
  refine va_calli (va_runS (As := [.int p1]) (rest := []) ⟨hx, hb, hml, hown, hts⟩ (c_X6_isFour l dC dI cI cC cS H1.size p1) (va_cwS 1 hts gX6_outputIn_X6_isFour rfl rfl rfl (by decide +kernel) ⟨Nat.le_of_ble_eq_true rfl, Nat.le_of_ble_eq_true rfl⟩) (pS hK (va_P_nil) (va_D_nil) hN) rfl rfl hl.1 rfl (lv_room (Nat.le_of_ble_eq_true rfl)) dX6_outputIn_6 ⟨Nat.le_of_ble_eq_true rfl, Nat.le_of_ble_eq_true rfl⟩) hS (fun q _ h => hFc q h) hFc (fun r_5 u_5 t_5 H6 locs ht hvm hw hB hz1 hk1 hS => ?_)
  obtain ⟨hw, hre7⟩ := hw
  subst hw
  have hP := ro_keep hP hk1
  refine lv_if_eq (tgt := 22) hx hb dX6_outputIn_9 (by decide) (fun c8 => ?_) (fun c8 => ?_)
  · rw [if_pos c8] at hR
    refine lv_iconst (v := (-1)) hx hb dX6_outputIn_22 (by decide) ?_
    exact W.iret (v := (-1)) hx hb hr (fun t ht hWw => ⟨⟨(-1), Rn2, rfl, hR.symm.trans eR, by rw [ht]; exact hP, hD⟩, hS.F ht⟩) hS.2.2 dX6_outputIn_23
  · rw [if_neg c8] at hR
    obtain ⟨ip1, hip1, ep1⟩ := vp_in_of (four_vp c8) (by decide)
    refine lv_iload_n hx hb dX6_outputIn_12 rfl (lv_at hl 2 rfl) ?_
    refine lv_iconst (v := 0) hx hb dX6_outputIn_13 (by decide) ?_
    refine lv_bipush (v := 100) hx hb dX6_outputIn_14 (by decide) ?_
    have hFc : ∀ q : Nat, va_A [] H6.size q → (va_A (cMd a cI R) s.heap.size) q := roF hS hA
    refine va_calli (va_runS (As := [.int p2, .int 0, .int 100]) (rest := []) ⟨hx, hb, hml, hown, hts⟩ (c_X6_in l dC dI cI cC cS H6.size p2 0 100) (va_cwS 3 hts gX6_outputIn_X6_in rfl rfl rfl (by decide +kernel) ⟨Nat.le_of_ble_eq_true rfl, Nat.le_of_ble_eq_true rfl⟩) (pS hK (va_P_nil) (va_D_nil) hN) rfl rfl hl.1 rfl (lv_room (Nat.le_of_ble_eq_true rfl)) dX6_outputIn_16 ⟨Nat.le_of_ble_eq_true rfl, Nat.le_of_ble_eq_true rfl⟩) hS (fun q _ h => hFc q h) hFc (fun r_9 u_9 t_9 H10 locs ht hvm hw hB hz1 hk1 hS => ?_)
    obtain ⟨hw, hre11⟩ := hw
    subst hw
    have hP := ro_keep hP hk1
    refine lv_if_ne (tgt := 24) hx hb dX6_outputIn_19 (by decide) (fun c12 => ?_) (fun c12 => ?_)
    · rw [if_neg c12] at hR
      obtain ⟨ip2, hip2, ep2⟩ := vp_in_of (in_vp (n := 100) c12 (by decide)) (by decide)
      refine lv_aload_n hx hb dX6_outputIn_24 rfl (lv_at hl 0 rfl) ?_
      have hPc : va_P (dC, dI) vwCl (cMd a cI Rn2) H10 := hP.sub [0, 1, 2, 3, 4, 5, 6] rfl
      have hDc : va_D (va_A (cMd a cI R) s.heap.size) (cMd a cI Rn2) := hD.sub [0, 1, 2, 3, 4, 5, 6] (by decide) rfl
      have hFc : ∀ q : Nat, va_A (cMd a cI Rn2) H10.size q → (va_A (cMd a cI R) s.heap.size) q := va_free hD hS hA [0, 1, 2, 3, 4, 5, 6] rfl
      refine va_callv (va_runV (As := []) (rest := []) ⟨hx, hb, hml, hown, hts⟩ (c_X6_hold l dC dI cI cC cS a Rn2 H10.size) (cwV 0 hts gX6_outputIn_X6_hold rfl rfl rfl (by decide +kernel) ⟨Nat.le_of_ble_eq_true rfl, Nat.le_of_ble_eq_true rfl⟩) (pV (q0 := 0) hK hPc hDc hN rfl rfl) rfl rfl hl.1 rfl (lv_room (Nat.le_of_ble_eq_true rfl)) dX6_outputIn_25 ⟨Nat.le_of_ble_eq_true rfl, Nat.le_of_ble_eq_true rfl⟩) hS (fun q _ h => hFc q h) hFc (fun u_13 t_13 H14 locs ht hvm hw hB hz1 hk1 hS => ?_)
      obtain ⟨hw, hens15, hens16, hens17, hens18, hens19⟩ := hw
      obtain ⟨hP1, hD1⟩ := hB
      rw [ht] at hP1
      subst hw
      obtain ⟨hP, hD⟩ := va_join (wc := cMd a cI Rn2) (wr := []) (w1 := cMd a cI (f_X6_hold Rn2)) hP hD [0, 1, 2, 3, 4, 5, 6] [] rfl rfl (by decide) (by decide) hk1 hFc hP1 hD1
      have hP : va_P (dC, dI) vwCl (cMd a cI (f_X6_hold Rn2)) H14 := hP.sub [0, 1, 2, 3, 4, 5, 6] rfl
      have hD : va_D (va_A (cMd a cI R) s.heap.size) (cMd a cI (f_X6_hold Rn2)) := hD.sub [0, 1, 2, 3, 4, 5, 6] (by decide) rfl
      obtain ⟨Rn20, eRn20⟩ : ∃ z : SR, z = (f_X6_hold Rn2) := ⟨_, rfl⟩
      rw [sLet_eq, ← eRn20] at hR
      rw [← eRn20] at hP hD
      have oi21 : RA Rn20 := (by rw [eRn20]; exact ra_eq oi3 hens15)
      have os22 : RS Rn20 := (by rw [eRn20]; exact rs_eq0 os4 hens15)
      refine lv_iconst (v := 0) hx hb dX6_outputIn_28 (by decide) ?_
      refine lv_istore_n (lv' := [(3, .int 0), (0, .ref (a 0)), (1, .int p1), (2, .int p2)]) hx hb dX6_outputIn_29 rfl hl (by decide) rfl (fun ls hl => ?_)
      have hL_30 : ∀ n_30 : Nat, ∀ (j_30 : Nat), ∀ (x3_30 : Int32) (R_30 : SR), x3_30 = nI j_30 → j_30 ≤ ip2 → ip2 < j_30 + n_30 → RA R_30 → RS R_30 → R0 = f_X6_outputIn_p30 p1 p2 n_30 x3_30 R_30 → ∀ (H : Heap) (locs : List Loc) (ls : Array Slot), va_P (dC, dI) vwCl (cMd a cI R_30) H → va_D (va_A (cMd a cI R) s.heap.size) (cMd a cI R_30) → va_S (va_A (cMd a cI R) s.heap.size) s.heap H locs → lv_has ls 4 [(0, .ref (a 0)), (1, .int p1), (2, .int p2), (3, .int x3_30)] → W p l e (headSpec wsX6_outputIn rm_X6_outputIn).room s m ([.ref (a 0), .int p1, .int p2] : List Value).toArray below meth c H locs 0 0 (MQ below (va_Qi (fun (r : Int32) (u : SR) => (r, u) = f_X6_outputIn R p1 p2) (fun u U => va_P (dC, dI) vwCl (cMd a cI u) U.heap ∧ va_D (va_A (cMd a cI R) s.heap.size) (cMd a cI u)) (va_A (cMd a cI R) s.heap.size)) ([.ref (a 0), .int p1, .int p2] : List Value).toArray s 0 0 (va_A (cMd a cI R) s.heap.size)) (F0 m 30 ls []) := by
        intro n_30
        induction n_30 with
        | zero =>
          intro j_30 x3_30 R_30 ex3_30 hj0_30 hn_30 oi_30 os_30
          exact absurd hn_30 (by omega)
        | succ n_30 ih_30 =>
          intro j_30 x3_30 R_30 ex3_30 hj0_30 hn_30 oi_30 os_30 hR H locs ls hP hD hS hl
          rw [f_X6_outputIn_p30] at hR
          refine lv_iload_n hx hb dX6_outputIn_30 rfl (lv_at hl 3 rfl) ?_
          refine lv_iload_n hx hb dX6_outputIn_31 rfl (lv_at hl 2 rfl) ?_
          refine lv_icmp_ge (tgt := 45) hx hb dX6_outputIn_32 (by decide) (fun c23 => ?_) (fun c23 => ?_)
          · rw [if_pos c23] at hR
            refine lv_aload_n hx hb dX6_outputIn_45 rfl (lv_at hl 0 rfl) ?_
            refine va_get (D := (dC, dI)) (ci := 6) (v := .ref (a 1)) (C := RX6) (T := TX6) (N := 15) hx hb hts hin6 hown hK hP 0 rfl rfl 1 (by decide) (hts (.fieldLink RX6 7 "FeedDeskModel" "s" "[I") (List.mem_of_getElem? (i := 2) rfl)) (fun _ h9 => h9) rfl dX6_outputIn_46 ?_
            refine lv_sipush (v := 136) hx hb dX6_outputIn_49 (by decide) ?_
            refine lv_iload_n hx hb dX6_outputIn_52 rfl (lv_at hl 1 rfl) ?_
            refine lv_iadd hx hb dX6_outputIn_53 ?_
            refine va_iald (f := R_30 0) hx hb hK hP 1 0 rfl rfl (by rw [ep1]; exact vp_of_B (ix_28 ip1 hip1)) dX6_outputIn_54 ?_
            refine lv_istore_n (lv' := [(3, .int (R_30 0 (136 + p1).toNatClampNeg)), (0, .ref (a 0)), (1, .int p1), (2, .int p2)]) hx hb dX6_outputIn_55 rfl hl (by decide) rfl (fun ls hl => ?_)
            refine lv_aload_n hx hb dX6_outputIn_56 rfl (lv_at hl 1 rfl) ?_
            have hPc : va_P (dC, dI) vwCl (cMd a cI R_30) H := hP.sub [0, 1, 2, 3, 4, 5, 6] rfl
            have hDc : va_D (va_A (cMd a cI R) s.heap.size) (cMd a cI R_30) := hD.sub [0, 1, 2, 3, 4, 5, 6] (by decide) rfl
            have hFc : ∀ q : Nat, va_A (cMd a cI R_30) H.size q → (va_A (cMd a cI R) s.heap.size) q := va_free hD hS hA [0, 1, 2, 3, 4, 5, 6] rfl
            refine va_callv (va_runV (As := []) (rest := []) ⟨hx, hb, hml, hown, hts⟩ (c_X6_release l dC dI cI cC cS a R_30 H.size) (cwV 0 hts gX6_outputIn_X6_release rfl rfl rfl (by decide +kernel) ⟨Nat.le_of_ble_eq_true rfl, Nat.le_of_ble_eq_true rfl⟩) (pV (q0 := 0) hK hPc hDc hN rfl rfl) rfl rfl hl.1 rfl (lv_room (Nat.le_of_ble_eq_true rfl)) dX6_outputIn_57 ⟨Nat.le_of_ble_eq_true rfl, Nat.le_of_ble_eq_true rfl⟩) hS (fun q _ h => hFc q h) hFc (fun u_24 t_24 H25 locs ht hvm hw hB hz1 hk1 hS => ?_)
            obtain ⟨hw, hens26, hens27, hens28, hens29, hens30⟩ := hw
            obtain ⟨hP1, hD1⟩ := hB
            rw [ht] at hP1
            subst hw
            obtain ⟨hP, hD⟩ := va_join (wc := cMd a cI R_30) (wr := []) (w1 := cMd a cI (f_X6_release R_30)) hP hD [0, 1, 2, 3, 4, 5, 6] [] rfl rfl (by decide) (by decide) hk1 hFc hP1 hD1
            have hP : va_P (dC, dI) vwCl (cMd a cI (f_X6_release R_30)) H25 := hP.sub [0, 1, 2, 3, 4, 5, 6] rfl
            have hD : va_D (va_A (cMd a cI R) s.heap.size) (cMd a cI (f_X6_release R_30)) := hD.sub [0, 1, 2, 3, 4, 5, 6] (by decide) rfl
            obtain ⟨Rn31, eRn31⟩ : ∃ z : SR, z = (f_X6_release R_30) := ⟨_, rfl⟩
            rw [sLet_eq, ← eRn31] at hR
            rw [← eRn31] at hP hD
            refine lv_iload_n hx hb dX6_outputIn_60 rfl (lv_at hl 0 rfl) ?_
            exact W.iret (v := R_30 0 (136 + p1).toNatClampNeg) hx hb hr (fun t ht hWw => ⟨⟨R_30 0 (136 + p1).toNatClampNeg, Rn31, rfl, hR.symm.trans eR, by rw [ht]; exact hP, hD⟩, hS.F ht⟩) hS.2.2 dX6_outputIn_61
          · rw [if_neg c23] at hR
            have hj_30 : j_30 < ip2 := lp_ge ex3_30 ep2 (by omega) (by omega) c23
            refine lv_aload_n hx hb dX6_outputIn_35 rfl (lv_at hl 0 rfl) ?_
            have hPc : va_P (dC, dI) vwCl (cMd a cI R_30) H := hP.sub [0, 1, 2, 3, 4, 5, 6] rfl
            have hDc : va_D (va_A (cMd a cI R) s.heap.size) (cMd a cI R_30) := hD.sub [0, 1, 2, 3, 4, 5, 6] (by decide) rfl
            have hFc : ∀ q : Nat, va_A (cMd a cI R_30) H.size q → (va_A (cMd a cI R) s.heap.size) q := va_free hD hS hA [0, 1, 2, 3, 4, 5, 6] rfl
            refine va_callv (va_runV (As := []) (rest := []) ⟨hx, hb, hml, hown, hts⟩ (c_X6_tick l dC dI cI cC cS a R_30 H.size oi_30 os_30) (cwV 0 hts gX6_outputIn_X6_tick rfl rfl rfl (by decide +kernel) ⟨Nat.le_of_ble_eq_true rfl, Nat.le_of_ble_eq_true rfl⟩) (pV (q0 := 0) hK hPc hDc hN rfl rfl) rfl rfl hl.1 rfl (lv_room (Nat.le_of_ble_eq_true rfl)) dX6_outputIn_36 ⟨Nat.le_of_ble_eq_true rfl, Nat.le_of_ble_eq_true rfl⟩) hS (fun q _ h => hFc q h) hFc (fun u_34 t_34 H35 locs ht hvm hw hB hz1 hk1 hS => ?_)
            obtain ⟨hw, hens36, hens37, hens38⟩ := hw
            obtain ⟨hP1, hD1⟩ := hB
            rw [ht] at hP1
            subst hw
            obtain ⟨hP, hD⟩ := va_join (wc := cMd a cI R_30) (wr := []) (w1 := cMd a cI (f_X6_tick R_30)) hP hD [0, 1, 2, 3, 4, 5, 6] [] rfl rfl (by decide) (by decide) hk1 hFc hP1 hD1
            have hP : va_P (dC, dI) vwCl (cMd a cI (f_X6_tick R_30)) H35 := hP.sub [0, 1, 2, 3, 4, 5, 6] rfl
            have hD : va_D (va_A (cMd a cI R) s.heap.size) (cMd a cI (f_X6_tick R_30)) := hD.sub [0, 1, 2, 3, 4, 5, 6] (by decide) rfl
            obtain ⟨Rn39, eRn39⟩ : ∃ z : SR, z = (f_X6_tick R_30) := ⟨_, rfl⟩
            rw [sLet_eq, ← eRn39] at hR
            rw [← eRn39] at hP hD
            have oi40 : RA Rn39 := by rw [eRn39]; exact hens36
            have os41 : RS Rn39 := by rw [eRn39]; exact hens37
            have hq42 : FX R_30 Rn39 := by rw [eRn39]; exact hens38
            refine lv_iinc (v := x3_30 + 1) (lv' := [(3, .int (x3_30 + 1)), (0, .ref (a 0)), (1, .int p1), (2, .int p2)]) hx hb dX6_outputIn_39 hl (k := 3) rfl rfl (by decide) rfl (fun ls hl => ?_)
            refine lv_goto (tgt := 30) hx hb dX6_outputIn_42 (by decide) ?_
            exact ih_30 (j_30 + 1) (x3_30 + 1) Rn39 (by rw [ex3_30, nI_1]) (by omega) (by omega) oi40 os41 hR _ _ _ hP hD hS (lv_sub hl [1, 2, 3, 0] rfl)
      exact hL_30 (p2.toNatClampNeg + 1) 0 0 Rn20 (by decide +kernel) (Nat.zero_le _) (by rw [ep2, nI_clamp (by omega)]; omega) oi21 os22 hR _ _ _ hP hD hS (lv_sub hl [1, 2, 3, 0] rfl)
    · rw [if_pos c12] at hR
      refine lv_iconst (v := (-1)) hx hb dX6_outputIn_22 (by decide) ?_
      exact W.iret (v := (-1)) hx hb hr (fun t ht hWw => ⟨⟨(-1), Rn2, rfl, hR.symm.trans eR, by rw [ht]; exact hP, hD⟩, hS.F ht⟩) hS.2.2 dX6_outputIn_23
