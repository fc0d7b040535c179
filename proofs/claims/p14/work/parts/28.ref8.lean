abbrev rm_X6_here : Room := { frames := 0, cells := 0, slots := 0, locals := 0 }
def f_X6_here_p38     (R_38 : SR) : Int32 × SR := (if (R_38 6 2) ≤ (R_38 6 3) then ((-1), R_38) else (R_38 3 (R_38 6 3).toNatClampNeg, R_38))
def f_X6_here_p0   : Nat → SR → (Int32 × SR)
  | 0, R_0 => (0, R_0)
  | n_0 + 1, R_0 => (if (R_0 6 2) ≤ (R_0 6 3) then f_X6_here_p38 R_0 else (if (R_0 3 (R_0 6 3).toNatClampNeg) = 32 then sLet (sU R_0 6 3 ((R_0 6 3) + 1)) (fun Rn5 : SR => (f_X6_here_p0 n_0) Rn5) else f_X6_here_p38 R_0))
def f_X6_here (R : SR)  : Int32 × SR := f_X6_here_p0 142 R
set_option maxHeartbeats 4000000 in
set_option maxRecDepth 100000 in
theorem c_X6_here (l : Launch) (dC : Nat → ClassId) (dI : Nat → Nat → Nat) (cI cC cS : ClassId) (a : Nat → Nat) (R : SR) (sz : Nat)  (ht : WFT R) : Met l yX6_here wsX6_here rm_X6_here (PcG (dC, dI) (tyL cI cC cS) (cMd a cI R) sz [.ref (a 0)]) (va_Qi (fun (r : Int32) (u : SR) => (r, u) = f_X6_here R ∧ (WFT u) ∧ (u 0 = R 0) ∧ (FX R u) ∧ (MN R u) ∧ (r = -1 ∨ ¬ u 6 2 ≤ u 6 3)) (fun u U => va_P (dC, dI) vwCl (cMd a cI u) U.heap ∧ va_D (va_A (cMd a cI R) sz) (cMd a cI u)) (va_A (cMd a cI R) sz)) 0 0 (va_A (cMd a cI R) sz) := by
  refine Met.ofW (cc := cX6_here) (maxL := 1) (ret := (some .int)) (by decide) rfl ?_
  intro p e s m args below meth c s₁ B hml hv
  obtain ⟨rfl, hsz, hP, hK, hD0, hN⟩ := hv
  have hx := B.exec
  have hb := B.bytes
  have hr := B.returns
  have hts := atoms_spec (ws := wsX6_here) B.pre
  have hown : s.vm.findClass RX6 = some m.cls := findClass_of_methodNamed B.named
  have hlocks := B.notSynchronized
  subst hsz
  have hD := hD0.self (sz := s.heap.size)
  have hA : ∀ q : Nat, s.heap.size ≤ q → (va_A (cMd a cI R) s.heap.size) q := fun q h => Or.inr h
  have hS : va_S (va_A (cMd a cI R) s.heap.size) s.heap s.heap [] := va_S.rf
  have hin6 : ∀ w ∈ wsX60, w ∈ wsX6_here := fun _ h => List.mem_cons_of_mem _ (List.mem_append_right _ h)
  have hsk_0 : R 0 = R 0 := rfl
  have hx_0 : FX R R := fx_rf
  have hmn_0 : MN R R := mn_rf
  have hl := lv_entry [.ref (a 0)] (n := 1) (Nat.le_of_ble_eq_true rfl)
  rw [lg_entry_eq]
  generalize (lg_sl [.ref (a 0)] ++ List.replicate (1 - (lg_sl [.ref (a 0)]).length) Slot.unset).toArray = ls at hl ⊢
  have hl : lv_has ls 1 [(0, .ref (a 0))] := hl
  obtain ⟨R0, eR⟩ : ∃ z, z = f_X6_here R := ⟨_, rfl⟩
  have hR := eR
  rw [f_X6_here] at hR
  have hL_0 : ∀ n_0 : Nat,  ∀  (R_0 : SR), ms (vw R_0) < n_0 → WFT R_0 → R_0 0 = R 0 → FX R R_0 → MN R R_0 → R0 = f_X6_here_p0 n_0 R_0 → ∀ (H : Heap) (locs : List Loc) (ls : Array Slot), va_P (dC, dI) vwCl (cMd a cI R_0) H → va_D (va_A (cMd a cI R) s.heap.size) (cMd a cI R_0) → va_S (va_A (cMd a cI R) s.heap.size) s.heap H locs → lv_has ls 1 [(0, .ref (a 0))] → W p l e (headSpec wsX6_here rm_X6_here).room s m ([.ref (a 0)] : List Value).toArray below meth c H locs 0 0 (MQ below (va_Qi (fun (r : Int32) (u : SR) => (r, u) = f_X6_here R ∧ (WFT u) ∧ (u 0 = R 0) ∧ (FX R u) ∧ (MN R u) ∧ (r = -1 ∨ ¬ u 6 2 ≤ u 6 3)) (fun u U => va_P (dC, dI) vwCl (cMd a cI u) U.heap ∧ va_D (va_A (cMd a cI R) s.heap.size) (cMd a cI u)) (va_A (cMd a cI R) s.heap.size)) ([.ref (a 0)] : List Value).toArray s 0 0 (va_A (cMd a cI R) s.heap.size)) (F0 m 0 ls []) := by
    intro n_0
    induction n_0 with
    | zero =>
      intro  R_0 hm_0 ht_0 hsk_0 hx_0 hmn_0
      exact absurd hm_0 (Nat.not_lt_zero _)
    | succ n_0 ih_0 =>
      intro  R_0 hm_0 ht_0 hsk_0 hx_0 hmn_0 hR H locs ls hP hD hS hl
      rw [f_X6_here_p0] at hR
      refine lv_aload_n hx hb dX6_here_0 rfl (lv_at hl 0 rfl) ?_
      refine va_get (D := (dC, dI)) (ci := 6) (v := .int (R_0 6 3)) (C := RX6) (T := TX6) (N := 15) hx hb hts hin6 hown hK hP 0 rfl rfl 7 (by decide) (hts (.fieldLink RX6 125 "FeedDeskModel" "next" "I") (List.mem_of_getElem? (i := 1) rfl)) (fun _ h9 => h9) rfl dX6_here_1 ?_
      refine lv_aload_n hx hb dX6_here_4 rfl (lv_at hl 0 rfl) ?_
      refine va_get (D := (dC, dI)) (ci := 6) (v := .int (R_0 6 2)) (C := RX6) (T := TX6) (N := 15) hx hb hts hin6 hown hK hP 0 rfl rfl 6 (by decide) (hts (.fieldLink RX6 122 "FeedDeskModel" "length" "I") (List.mem_of_getElem? (i := 2) rfl)) (fun _ h9 => h9) rfl dX6_here_5 ?_
      have hJ_38 : ∀   (R_38 : SR), WFT R_38 → R_38 0 = R 0 → FX R R_38 → MN R R_38 → R0 = f_X6_here_p38 R_38 → ∀ (H : Heap) (locs : List Loc) (ls : Array Slot), va_P (dC, dI) vwCl (cMd a cI R_38) H → va_D (va_A (cMd a cI R) s.heap.size) (cMd a cI R_38) → va_S (va_A (cMd a cI R) s.heap.size) s.heap H locs → lv_has ls 1 [(0, .ref (a 0))] → W p l e (headSpec wsX6_here rm_X6_here).room s m ([.ref (a 0)] : List Value).toArray below meth c H locs 0 0 (MQ below (va_Qi (fun (r : Int32) (u : SR) => (r, u) = f_X6_here R ∧ (WFT u) ∧ (u 0 = R 0) ∧ (FX R u) ∧ (MN R u) ∧ (r = -1 ∨ ¬ u 6 2 ≤ u 6 3)) (fun u U => va_P (dC, dI) vwCl (cMd a cI u) U.heap ∧ va_D (va_A (cMd a cI R) s.heap.size) (cMd a cI u)) (va_A (cMd a cI R) s.heap.size)) ([.ref (a 0)] : List Value).toArray s 0 0 (va_A (cMd a cI R) s.heap.size)) (F0 m 38 ls []) := by
        intro R_38 ht_38 hsk_38 hx_38 hmn_38 hR H locs ls hP hD hS hl
        rw [f_X6_here_p38] at hR
        refine lv_aload_n hx hb dX6_here_38 rfl (lv_at hl 0 rfl) ?_
        refine va_get (D := (dC, dI)) (ci := 6) (v := .int (R_38 6 3)) (C := RX6) (T := TX6) (N := 15) hx hb hts hin6 hown hK hP 0 rfl rfl 7 (by decide) (hts (.fieldLink RX6 125 "FeedDeskModel" "next" "I") (List.mem_of_getElem? (i := 1) rfl)) (fun _ h9 => h9) rfl dX6_here_39 ?_
        refine lv_aload_n hx hb dX6_here_42 rfl (lv_at hl 0 rfl) ?_
        refine va_get (D := (dC, dI)) (ci := 6) (v := .int (R_38 6 2)) (C := RX6) (T := TX6) (N := 15) hx hb hts hin6 hown hK hP 0 rfl rfl 6 (by decide) (hts (.fieldLink RX6 122 "FeedDeskModel" "length" "I") (List.mem_of_getElem? (i := 2) rfl)) (fun _ h9 => h9) rfl dX6_here_43 ?_
        refine lv_icmp_ge (tgt := 61) hx hb dX6_here_46 (by decide) (fun c1 => ?_) (fun c1 => ?_)
        · rw [if_pos c1] at hR
          refine lv_iconst (v := (-1)) hx hb dX6_here_61 (by decide) ?_
          exact W.iret (v := (-1)) hx hb hr (fun t ht hWw => ⟨⟨(-1), R_38, rfl, ⟨hR.symm.trans eR, ht_38, hsk_38, hx_38, hmn_38, (Or.inl rfl)⟩, by rw [ht]; exact hP, hD⟩, hS.F ht⟩) hS.2.2 dX6_here_62
        · rw [if_neg c1] at hR
          refine lv_aload_n hx hb dX6_here_49 rfl (lv_at hl 0 rfl) ?_
          refine va_get (D := (dC, dI)) (ci := 6) (v := .ref (a 4)) (C := RX6) (T := TX6) (N := 15) hx hb hts hin6 hown hK hP 0 rfl rfl 5 (by decide) (hts (.fieldLink RX6 19 "FeedDeskModel" "text" "[I") (List.mem_of_getElem? (i := 3) rfl)) (fun _ h9 => h9) rfl dX6_here_50 ?_
          refine lv_aload_n hx hb dX6_here_53 rfl (lv_at hl 0 rfl) ?_
          refine va_get (D := (dC, dI)) (ci := 6) (v := .int (R_38 6 3)) (C := RX6) (T := TX6) (N := 15) hx hb hts hin6 hown hK hP 0 rfl rfl 7 (by decide) (hts (.fieldLink RX6 125 "FeedDeskModel" "next" "I") (List.mem_of_getElem? (i := 1) rfl)) (fun _ h9 => h9) rfl dX6_here_54 ?_
          refine va_iald (f := R_38 3) hx hb hK hP 4 0 rfl rfl (wft_in ht_38 c1) dX6_here_57 ?_
          refine lv_goto (tgt := 62) hx hb dX6_here_58 (by decide) ?_
          exact W.iret (v := R_38 3 (R_38 6 3).toNatClampNeg) hx hb hr (fun t ht hWw => ⟨⟨R_38 3 (R_38 6 3).toNatClampNeg, R_38, rfl, ⟨hR.symm.trans eR, ht_38, hsk_38, hx_38, hmn_38, (Or.inr c1)⟩, by rw [ht]; exact hP, hD⟩, hS.F ht⟩) hS.2.2 dX6_here_62
      refine lv_icmp_ge (tgt := 38) hx hb dX6_here_8 (by decide) (fun c2 => ?_) (fun c2 => ?_)
      · rw [if_pos c2] at hR
        exact hJ_38 R_0 ht_0 hsk_0 hx_0 hmn_0 hR _ _ _ hP hD hS (lv_sub hl [0] rfl)
      · rw [if_neg c2] at hR
        refine lv_aload_n hx hb dX6_here_11 rfl (lv_at hl 0 rfl) ?_
        refine va_get (D := (dC, dI)) (ci := 6) (v := .ref (a 4)) (C := RX6) (T := TX6) (N := 15) hx hb hts hin6 hown hK hP 0 rfl rfl 5 (by decide) (hts (.fieldLink RX6 19 "FeedDeskModel" "text" "[I") (List.mem_of_getElem? (i := 3) rfl)) (fun _ h9 => h9) rfl dX6_here_12 ?_
        refine lv_aload_n hx hb dX6_here_15 rfl (lv_at hl 0 rfl) ?_
        refine va_get (D := (dC, dI)) (ci := 6) (v := .int (R_0 6 3)) (C := RX6) (T := TX6) (N := 15) hx hb hts hin6 hown hK hP 0 rfl rfl 7 (by decide) (hts (.fieldLink RX6 125 "FeedDeskModel" "next" "I") (List.mem_of_getElem? (i := 1) rfl)) (fun _ h9 => h9) rfl dX6_here_16 ?_
        refine va_iald (f := R_0 3) hx hb hK hP 4 0 rfl rfl (wft_in ht_0 c2) dX6_here_19 ?_
        refine lv_bipush (v := 32) hx hb dX6_here_20 (by decide) ?_
        refine lv_icmp_ne (tgt := 38) hx hb dX6_here_22 (by decide) (fun c3 => ?_) (fun c3 => ?_)
        · rw [if_neg c3] at hR
          exact hJ_38 R_0 ht_0 hsk_0 hx_0 hmn_0 hR _ _ _ hP hD hS (lv_sub hl [0] rfl)
        · rw [if_pos c3] at hR
          refine lv_aload_n hx hb dX6_here_25 rfl (lv_at hl 0 rfl) ?_
          refine lv_dup hx hb dX6_here_26 rfl ?_
          refine va_get (D := (dC, dI)) (ci := 6) (v := .int (R_0 6 3)) (C := RX6) (T := TX6) (N := 15) hx hb hts hin6 hown hK hP 0 rfl rfl 7 (by decide) (hts (.fieldLink RX6 125 "FeedDeskModel" "next" "I") (List.mem_of_getElem? (i := 1) rfl)) (fun _ h9 => h9) rfl dX6_here_27 ?_
          refine lv_iconst (v := 1) hx hb dX6_here_30 (by decide) ?_
          refine lv_iadd hx hb dX6_here_31 ?_
          refine va_put (D := (dC, dI)) (ci := 6) (v := .int ((R_0 6 3) + 1)) (ty := .int) (C := RX6) (T := TX6) (N := 15) hx hb hts hin6 tyX6 tyX6_ok nmX6 hown hK hP hD hS 0 rfl rfl 7 (by decide) (hts (.fieldLink RX6 125 "FeedDeskModel" "next" "I") (List.mem_of_getElem? (i := 1) rfl)) (fun _ h9 => h9) rfl (by decide +kernel) rfl rfl (Nat.le_of_ble_eq_true rfl) dX6_here_32 (fun H4 locs hP hD hS => ?_)
          have hP : va_P (dC, dI) vwCl (cMd a cI (sU R_0 6 3 ((R_0 6 3) + 1))) H4 := hP
          have hD : va_D (va_A (cMd a cI R) s.heap.size) (cMd a cI (sU R_0 6 3 ((R_0 6 3) + 1))) := hD
          obtain ⟨Rn5, eRn5⟩ : ∃ z : SR, z = sU R_0 6 3 ((R_0 6 3) + 1) := ⟨_, rfl⟩
          rw [sLet_eq, ← eRn5] at hR
          rw [← eRn5] at hP hD
          have ht6 : WFT Rn5 := (by rw [eRn5]; exact wft_inc ht_0 c2)
          have hsk7 : Rn5 0 = R 0 := (by rw [eRn5]; exact hsk_0)
          have hx8 : FX R Rn5 := (by rw [eRn5]; exact hx_0)
          have hmn9 : MN R Rn5 := (by rw [eRn5]; exact mn_inc hmn_0 ht_0 c2)
          refine lv_goto (tgt := 0) hx hb dX6_here_35 (by decide) ?_
          exact ih_0 Rn5 (by rw [eRn5]; exact ms_back (wft_ms ht_0 c2) hm_0) ht6 hsk7 hx8 hmn9 hR _ _ _ hP hD hS (lv_sub hl [0] rfl)
  exact hL_0 142 R (ms_lt ht) ht hsk_0 hx_0 hmn_0 hR _ _ _ hP hD hS (lv_sub hl [0] rfl)
abbrev rm_X6_takes : Room := { frames := 1, cells := 0, slots := 0, locals := 20 }
def f_X6_takes (R : SR) (p1 : Int32) : Int32 × SR := sLet ((f_X6_here R).2) (fun Rn8 : SR => (if ((f_X6_here R).1) = p1 then sLet (sU Rn8 6 3 ((Rn8 6 3) + 1)) (fun Rn24 : SR => (1, Rn24)) else sLet (sU Rn8 6 3 ((Rn8 6 3) + 0)) (fun Rn17 : SR => (0, Rn17))))
set_option maxHeartbeats 4000000 in
set_option maxRecDepth 100000 in
theorem c_X6_takes (l : Launch) (dC : Nat → ClassId) (dI : Nat → Nat → Nat) (cI cC cS : ClassId) (a : Nat → Nat) (R : SR) (sz : Nat) (p1 : Int32) (hp1 : ¬ p1 = -1) (ht : WFT R) : Met l yX6_takes wsX6_takes rm_X6_takes (PcG (dC, dI) (tyL cI cC cS) (cMd a cI R) sz [.ref (a 0), .int p1]) (va_Qi (fun (r : Int32) (u : SR) => (r, u) = f_X6_takes R p1 ∧ (WFT u) ∧ (u 0 = R 0) ∧ (FX R u) ∧ (MN R u) ∧ (r = 0 ∨ MS R u) ∧ (r = 0 ∨ r = 1)) (fun u U => va_P (dC, dI) vwCl (cMd a cI u) U.heap ∧ va_D (va_A (cMd a cI R) sz) (cMd a cI u)) (va_A (cMd a cI R) sz)) 0 0 (va_A (cMd a cI R) sz) := by
  refine Met.ofW (cc := cX6_takes) (maxL := 3) (ret := (some .boolean)) (by decide) rfl ?_
  intro p e s m args below meth c s₁ B hml hv
  obtain ⟨rfl, hsz, hP, hK, hD0, hN⟩ := hv
  have hx := B.exec
  have hb := B.bytes
  have hr := B.returns
  have hts := atoms_spec (ws := wsX6_takes) B.pre
  have hown : s.vm.findClass RX6 = some m.cls := findClass_of_methodNamed B.named
  have hlocks := B.notSynchronized
  subst hsz
  have hD := hD0.self (sz := s.heap.size)
  have hA : ∀ q : Nat, s.heap.size ≤ q → (va_A (cMd a cI R) s.heap.size) q := fun q h => Or.inr h
  have hS : va_S (va_A (cMd a cI R) s.heap.size) s.heap s.heap [] := va_S.rf
  have hin6 : ∀ w ∈ wsX60, w ∈ wsX6_takes := fun _ h => List.mem_cons_of_mem _ (List.mem_append_right _ h)
  have hsk_0 : R 0 = R 0 := rfl
  have hx_0 : FX R R := fx_rf
  have hmn_0 : MN R R := mn_rf
  have hl := lv_entry [.ref (a 0), .int p1] (n := 3) (Nat.le_of_ble_eq_true rfl)
  rw [lg_entry_eq]
  generalize (lg_sl [.ref (a 0), .int p1] ++ List.replicate (3 - (lg_sl [.ref (a 0), .int p1]).length) Slot.unset).toArray = ls at hl ⊢
  have hl : lv_has ls 3 [(0, .ref (a 0)), (1, .int p1)] := hl
  obtain ⟨R0, eR⟩ : ∃ z, z = f_X6_takes R p1 := ⟨_, rfl⟩
  have hR := eR
  rw [f_X6_takes] at hR
  refine lv_aload_n hx hb dX6_takes_0 rfl (lv_at hl 0 rfl) ?_
  have hPc : va_P (dC, dI) vwCl (cMd a cI R) s.heap := hP.sub [0, 1, 2, 3, 4, 5, 6] rfl
  have hDc : va_D (va_A (cMd a cI R) s.heap.size) (cMd a cI R) := hD.sub [0, 1, 2, 3, 4, 5, 6] (by decide) rfl
  have hFc : ∀ q : Nat, va_A (cMd a cI R) s.heap.size q → (va_A (cMd a cI R) s.heap.size) q := va_free hD hS hA [0, 1, 2, 3, 4, 5, 6] rfl
  refine va_calli (va_runV (As := []) (rest := []) ⟨hx, hb, hml, hown, hts⟩ (c_X6_here l dC dI cI cC cS a R s.heap.size ht) (cwV 0 hts gX6_takes_X6_here rfl rfl rfl (by decide +kernel) ⟨Nat.le_of_ble_eq_true rfl, Nat.le_of_ble_eq_true rfl⟩) (pV (q0 := 0) hK hPc hDc hN rfl rfl) rfl rfl hl.1 rfl (lv_room (Nat.le_of_ble_eq_true rfl)) dX6_takes_1 ⟨Nat.le_of_ble_eq_true rfl, Nat.le_of_ble_eq_true rfl⟩) hS (fun q _ h => hFc q h) hFc (fun r_1 u_1 t_1 H2 locs ht hvm hw hB hz1 hk1 hS => ?_)
  obtain ⟨hw, hens3, hens4, hens5, hens6, hens7⟩ := hw
  obtain ⟨hP1, hD1⟩ := hB
  rw [ht] at hP1
  have hw1 : r_1 = (f_X6_here R).1 := congrArg Prod.fst hw
  have hw2 : u_1 = (f_X6_here R).2 := congrArg Prod.snd hw
  clear hw
  subst hw1
  subst hw2
  obtain ⟨hP, hD⟩ := va_join (wc := cMd a cI R) (wr := []) (w1 := cMd a cI ((f_X6_here R).2)) hP hD [0, 1, 2, 3, 4, 5, 6] [] rfl rfl (by decide) (by decide) hk1 hFc hP1 hD1
  have hP : va_P (dC, dI) vwCl (cMd a cI ((f_X6_here R).2)) H2 := hP.sub [0, 1, 2, 3, 4, 5, 6] rfl
  have hD : va_D (va_A (cMd a cI R) s.heap.size) (cMd a cI ((f_X6_here R).2)) := hD.sub [0, 1, 2, 3, 4, 5, 6] (by decide) rfl
  obtain ⟨Rn8, eRn8⟩ : ∃ z : SR, z = (f_X6_here R).2 := ⟨_, rfl⟩
  rw [sLet_eq, ← eRn8] at hR
  rw [← eRn8] at hP hD
  have ht9 : WFT Rn8 := by rw [eRn8]; exact hens3
  have hsk10 : Rn8 0 = R 0 := by rw [eRn8]; exact hens4
  have hx11 : FX R Rn8 := by rw [eRn8]; exact hens5
  have hmn12 : MN R Rn8 := by rw [eRn8]; exact hens6
  have hq13 : ((f_X6_here R).1) = -1 ∨ ¬ Rn8 6 2 ≤ Rn8 6 3 := by rw [eRn8]; exact hens7
  refine lv_iload_n hx hb dX6_takes_4 rfl (lv_at hl 1 rfl) ?_
  refine lv_icmp_ne (tgt := 12) hx hb dX6_takes_5 (by decide) (fun c14 => ?_) (fun c14 => ?_)
  · rw [if_neg c14] at hR
    refine lv_iconst (v := 0) hx hb dX6_takes_12 (by decide) ?_
    refine lv_istore_n (lv' := [(2, .int 0), (0, .ref (a 0)), (1, .int p1)]) hx hb dX6_takes_13 rfl hl (by decide) rfl (fun ls hl => ?_)
    refine lv_aload_n hx hb dX6_takes_14 rfl (lv_at hl 1 rfl) ?_
    refine lv_dup hx hb dX6_takes_15 rfl ?_
    refine va_get (D := (dC, dI)) (ci := 6) (v := .int (Rn8 6 3)) (C := RX6) (T := TX6) (N := 15) hx hb hts hin6 hown hK hP 0 rfl rfl 7 (by decide) (hts (.fieldLink RX6 125 "FeedDeskModel" "next" "I") (List.mem_of_getElem? (i := 1) rfl)) (fun _ h9 => h9) rfl dX6_takes_16 ?_
    refine lv_iload_n hx hb dX6_takes_19 rfl (lv_at hl 0 rfl) ?_
    refine lv_if_eq (tgt := 27) hx hb dX6_takes_20 (by decide) (fun c15 => ?_) (fun c15 => ?_)
    · refine lv_iconst (v := 0) hx hb dX6_takes_27 (by decide) ?_
      refine lv_iadd hx hb dX6_takes_28 ?_
      refine va_put (D := (dC, dI)) (ci := 6) (v := .int ((Rn8 6 3) + 0)) (ty := .int) (C := RX6) (T := TX6) (N := 15) hx hb hts hin6 tyX6 tyX6_ok nmX6 hown hK hP hD hS 0 rfl rfl 7 (by decide) (hts (.fieldLink RX6 125 "FeedDeskModel" "next" "I") (List.mem_of_getElem? (i := 1) rfl)) (fun _ h9 => h9) rfl (by decide +kernel) rfl rfl (Nat.le_of_ble_eq_true rfl) dX6_takes_29 (fun H16 locs hP hD hS => ?_)
      have hP : va_P (dC, dI) vwCl (cMd a cI (sU Rn8 6 3 ((Rn8 6 3) + 0))) H16 := hP
      have hD : va_D (va_A (cMd a cI R) s.heap.size) (cMd a cI (sU Rn8 6 3 ((Rn8 6 3) + 0))) := hD
      obtain ⟨Rn17, eRn17⟩ : ∃ z : SR, z = sU Rn8 6 3 ((Rn8 6 3) + 0) := ⟨_, rfl⟩
      rw [sLet_eq, ← eRn17] at hR
      rw [← eRn17] at hP hD
      have ht18 : WFT Rn17 := (by rw [eRn17, Int32.add_zero]; exact ht9)
      have hsk19 : Rn17 0 = R 0 := (by rw [eRn17]; exact hsk10)
      have hx20 : FX R Rn17 := (by rw [eRn17]; exact hx11)
      have hmn21 : MN R Rn17 := (by rw [eRn17, Int32.add_zero]; exact hmn12)
      refine lv_iload_n hx hb dX6_takes_32 rfl (lv_at hl 0 rfl) ?_
      exact W.zret (v := 0) hx hb hr rfl (fun t ht hWw => ⟨⟨0, Rn17, rfl, ⟨hR.symm.trans eR, ht18, hsk19, hx20, hmn21, (Or.inl rfl), (Or.inl rfl)⟩, by rw [ht]; exact hP, hD⟩, hS.F ht⟩) hS.2.2 dX6_takes_33
    · exact absurd c15 (by decide)
  · rw [if_pos c14] at hR
    refine lv_iconst (v := 1) hx hb dX6_takes_8 (by decide) ?_
    refine lv_goto (tgt := 13) hx hb dX6_takes_9 (by decide) ?_
    refine lv_istore_n (lv' := [(2, .int 1), (0, .ref (a 0)), (1, .int p1)]) hx hb dX6_takes_13 rfl hl (by decide) rfl (fun ls hl => ?_)
    refine lv_aload_n hx hb dX6_takes_14 rfl (lv_at hl 1 rfl) ?_
    refine lv_dup hx hb dX6_takes_15 rfl ?_
    refine va_get (D := (dC, dI)) (ci := 6) (v := .int (Rn8 6 3)) (C := RX6) (T := TX6) (N := 15) hx hb hts hin6 hown hK hP 0 rfl rfl 7 (by decide) (hts (.fieldLink RX6 125 "FeedDeskModel" "next" "I") (List.mem_of_getElem? (i := 1) rfl)) (fun _ h9 => h9) rfl dX6_takes_16 ?_
    refine lv_iload_n hx hb dX6_takes_19 rfl (lv_at hl 0 rfl) ?_
    refine lv_if_eq (tgt := 27) hx hb dX6_takes_20 (by decide) (fun c22 => ?_) (fun c22 => ?_)
    · exact absurd c22 (by decide)
    · refine lv_iconst (v := 1) hx hb dX6_takes_23 (by decide) ?_
      refine lv_goto (tgt := 28) hx hb dX6_takes_24 (by decide) ?_
      refine lv_iadd hx hb dX6_takes_28 ?_
      refine va_put (D := (dC, dI)) (ci := 6) (v := .int ((Rn8 6 3) + 1)) (ty := .int) (C := RX6) (T := TX6) (N := 15) hx hb hts hin6 tyX6 tyX6_ok nmX6 hown hK hP hD hS 0 rfl rfl 7 (by decide) (hts (.fieldLink RX6 125 "FeedDeskModel" "next" "I") (List.mem_of_getElem? (i := 1) rfl)) (fun _ h9 => h9) rfl (by decide +kernel) rfl rfl (Nat.le_of_ble_eq_true rfl) dX6_takes_29 (fun H23 locs hP hD hS => ?_)
      have hP : va_P (dC, dI) vwCl (cMd a cI (sU Rn8 6 3 ((Rn8 6 3) + 1))) H23 := hP
      have hD : va_D (va_A (cMd a cI R) s.heap.size) (cMd a cI (sU Rn8 6 3 ((Rn8 6 3) + 1))) := hD
      obtain ⟨Rn24, eRn24⟩ : ∃ z : SR, z = sU Rn8 6 3 ((Rn8 6 3) + 1) := ⟨_, rfl⟩
      rw [sLet_eq, ← eRn24] at hR
      rw [← eRn24] at hP hD
      have ht25 : WFT Rn24 := (by rw [eRn24]; exact wft_inc ht9 (here_lt hq13 c14 hp1))
      have hsk26 : Rn24 0 = R 0 := (by rw [eRn24]; exact hsk10)
      have hx27 : FX R Rn24 := (by rw [eRn24]; exact hx11)
      have hmn28 : MN R Rn24 := (by rw [eRn24]; exact mn_inc hmn12 ht9 (here_lt hq13 c14 hp1))
      have hms29 : MS R Rn24 := by rw [eRn24]; exact ms_incA hmn12 ht9 (here_lt hq13 c14 hp1)
      refine lv_iload_n hx hb dX6_takes_32 rfl (lv_at hl 0 rfl) ?_
      exact W.zret (v := 1) hx hb hr rfl (fun t ht hWw => ⟨⟨1, Rn24, rfl, ⟨hR.symm.trans eR, ht25, hsk26, hx27, hmn28, (Or.inr hms29), (Or.inr rfl)⟩, by rw [ht]; exact hP, hD⟩, hS.F ht⟩) hS.2.2 dX6_takes_33
abbrev rm_X6_reads : Room := { frames := 1, cells := 0, slots := 0, locals := 22 }
def f_X6_reads_p14 (p1 : Int32) (p2 : Int32)  : Nat → Int32 → Int32 → Int32 → SR → (Int32 × SR)
  | 0, _, _, _, R_14 => (0, R_14)
  | n_14 + 1, x3_14, x4_14, x5_14, R_14 => (if (R_14 6 2) ≤ (R_14 6 3) then (if (R_14 6 3) ≤ x4_14 then sLet (sU R_14 6 3 x4_14) (fun Rn18 : SR => sLet (sU Rn18 6 4 x5_14) (fun Rn24 : SR => (0, Rn24))) else (if x3_14 = 48 then (if (R_14 6 3) = (x4_14 + 1) then (if (f_X6_in x5_14 p1 p2) = 0 then sLet (sU R_14 6 3 x4_14) (fun Rn80 : SR => sLet (sU Rn80 6 4 x5_14) (fun Rn86 : SR => (0, Rn86))) else sLet (sU R_14 6 3 (R_14 6 3)) (fun Rn93 : SR => sLet (sU Rn93 6 4 x5_14) (fun Rn99 : SR => (1, Rn99)))) else sLet (sU R_14 6 3 x4_14) (fun Rn63 : SR => sLet (sU Rn63 6 4 x5_14) (fun Rn69 : SR => (0, Rn69)))) else (if (f_X6_in x5_14 p1 p2) = 0 then sLet (sU R_14 6 3 x4_14) (fun Rn36 : SR => sLet (sU Rn36 6 4 x5_14) (fun Rn42 : SR => (0, Rn42))) else sLet (sU R_14 6 3 (R_14 6 3)) (fun Rn49 : SR => sLet (sU Rn49 6 4 x5_14) (fun Rn55 : SR => (1, Rn55)))))) else (if (f_X6_in (R_14 3 (R_14 6 3).toNatClampNeg) 48 57) = 0 then (if (R_14 6 3) ≤ x4_14 then sLet (sU R_14 6 3 x4_14) (fun Rn111 : SR => sLet (sU Rn111 6 4 x5_14) (fun Rn117 : SR => (0, Rn117))) else (if x3_14 = 48 then (if (R_14 6 3) = (x4_14 + 1) then (if (f_X6_in x5_14 p1 p2) = 0 then sLet (sU R_14 6 3 x4_14) (fun Rn173 : SR => sLet (sU Rn173 6 4 x5_14) (fun Rn179 : SR => (0, Rn179))) else sLet (sU R_14 6 3 (R_14 6 3)) (fun Rn186 : SR => sLet (sU Rn186 6 4 x5_14) (fun Rn192 : SR => (1, Rn192)))) else sLet (sU R_14 6 3 x4_14) (fun Rn156 : SR => sLet (sU Rn156 6 4 x5_14) (fun Rn162 : SR => (0, Rn162)))) else (if (f_X6_in x5_14 p1 p2) = 0 then sLet (sU R_14 6 3 x4_14) (fun Rn129 : SR => sLet (sU Rn129 6 4 x5_14) (fun Rn135 : SR => (0, Rn135))) else sLet (sU R_14 6 3 (R_14 6 3)) (fun Rn142 : SR => sLet (sU Rn142 6 4 x5_14) (fun Rn148 : SR => (1, Rn148)))))) else (if 100000 ≤ x5_14 then sLet (sU R_14 6 3 ((R_14 6 3) + 1)) (fun Rn199 : SR => (f_X6_reads_p14 p1 p2 n_14) x3_14 x4_14 x5_14 Rn199) else sLet (sU R_14 6 3 ((R_14 6 3) + 1)) (fun Rn205 : SR => (f_X6_reads_p14 p1 p2 n_14) x3_14 x4_14 (((10 * x5_14) + (R_14 3 (R_14 6 3).toNatClampNeg)) - 48) Rn205))))
def f_X6_reads (R : SR) (p1 : Int32) (p2 : Int32) : Int32 × SR := sLet ((f_X6_here R).2) (fun Rn8 : SR => f_X6_reads_p14 p1 p2 142 ((f_X6_here R).1) (Rn8 6 3) 0 Rn8)
set_option maxHeartbeats 4000000 in
set_option maxRecDepth 100000 in
theorem c_X6_reads (l : Launch) (dC : Nat → ClassId) (dI : Nat → Nat → Nat) (cI cC cS : ClassId) (a : Nat → Nat) (R : SR) (sz : Nat) (p1 : Int32) (p2 : Int32) (ht : WFT R) : Met l yX6_reads wsX6_reads rm_X6_reads (PcG (dC, dI) (tyL cI cC cS) (cMd a cI R) sz [.ref (a 0), .int p1, .int p2]) (va_Qi (fun (r : Int32) (u : SR) => (r, u) = f_X6_reads R p1 p2 ∧ (WFT u) ∧ (u 0 = R 0) ∧ (FX R u) ∧ (MN R u) ∧ (r = 0 ∨ (¬ u 6 4 < p1 ∧ ¬ p2 < u 6 4)) ∧ (r = 0 ∨ r = 1)) (fun u U => va_P (dC, dI) vwCl (cMd a cI u) U.heap ∧ va_D (va_A (cMd a cI R) sz) (cMd a cI u)) (va_A (cMd a cI R) sz)) 0 0 (va_A (cMd a cI R) sz) := by
  refine Met.ofW (cc := cX6_reads) (maxL := 7) (ret := (some .boolean)) (by decide) rfl ?_
  intro p e s m args below meth c s₁ B hml hv
  obtain ⟨rfl, hsz, hP, hK, hD0, hN⟩ := hv
  have hx := B.exec
  have hb := B.bytes
  have hr := B.returns
  have hts := atoms_spec (ws := wsX6_reads) B.pre
  have hown : s.vm.findClass RX6 = some m.cls := findClass_of_methodNamed B.named
  have hlocks := B.notSynchronized
  subst hsz
  have hD := hD0.self (sz := s.heap.size)
  have hA : ∀ q : Nat, s.heap.size ≤ q → (va_A (cMd a cI R) s.heap.size) q := fun q h => Or.inr h
  have hS : va_S (va_A (cMd a cI R) s.heap.size) s.heap s.heap [] := va_S.rf
  have hin6 : ∀ w ∈ wsX60, w ∈ wsX6_reads := fun _ h => List.mem_cons_of_mem _ (List.mem_append_right _ h)
  have hsk_0 : R 0 = R 0 := rfl
  have hx_0 : FX R R := fx_rf
  have hmn_0 : MN R R := mn_rf
  have hl := lv_entry [.ref (a 0), .int p1, .int p2] (n := 7) (Nat.le_of_ble_eq_true rfl)
  rw [lg_entry_eq]
  generalize (lg_sl [.ref (a 0), .int p1, .int p2] ++ List.replicate (7 - (lg_sl [.ref (a 0), .int p1, .int p2]).length) Slot.unset).toArray = ls at hl ⊢
  have hl : lv_has ls 7 [(0, .ref (a 0)), (1, .int p1), (2, .int p2)] := hl
  obtain ⟨R0, eR⟩ : ∃ z, z = f_X6_reads R p1 p2 := ⟨_, rfl⟩
  have hR := eR
  rw [f_X6_reads] at hR
  refine lv_aload_n hx hb dX6_reads_0 rfl (lv_at hl 0 rfl) ?_
  have hPc : va_P (dC, dI) vwCl (cMd a cI R) s.heap := hP.sub [0, 1, 2, 3, 4, 5, 6] rfl
  have hDc : va_D (va_A (cMd a cI R) s.heap.size) (cMd a cI R) := hD.sub [0, 1, 2, 3, 4, 5, 6] (by decide) rfl
  have hFc : ∀ q : Nat, va_A (cMd a cI R) s.heap.size q → (va_A (cMd a cI R) s.heap.size) q := va_free hD hS hA [0, 1, 2, 3, 4, 5, 6] rfl
  refine va_calli (va_runV (As := []) (rest := []) ⟨hx, hb, hml, hown, hts⟩ (c_X6_here l dC dI cI cC cS a R s.heap.size ht) (cwV 0 hts gX6_reads_X6_here rfl rfl rfl (by decide +kernel) ⟨Nat.le_of_ble_eq_true rfl, Nat.le_of_ble_eq_true rfl⟩) (pV (q0 := 0) hK hPc hDc hN rfl rfl) rfl rfl hl.1 rfl (lv_room (Nat.le_of_ble_eq_true rfl)) dX6_reads_1 ⟨Nat.le_of_ble_eq_true rfl, Nat.le_of_ble_eq_true rfl⟩) hS (fun q _ h => hFc q h) hFc (fun r_1 u_1 t_1 H2 locs ht hvm hw hB hz1 hk1 hS => ?_)
  obtain ⟨hw, hens3, hens4, hens5, hens6, hens7⟩ := hw
  obtain ⟨hP1, hD1⟩ := hB
  rw [ht] at hP1
  have hw1 : r_1 = (f_X6_here R).1 := congrArg Prod.fst hw
  have hw2 : u_1 = (f_X6_here R).2 := congrArg Prod.snd hw
  clear hw
  subst hw1
  subst hw2
  obtain ⟨hP, hD⟩ := va_join (wc := cMd a cI R) (wr := []) (w1 := cMd a cI ((f_X6_here R).2)) hP hD [0, 1, 2, 3, 4, 5, 6] [] rfl rfl (by decide) (by decide) hk1 hFc hP1 hD1
  have hP : va_P (dC, dI) vwCl (cMd a cI ((f_X6_here R).2)) H2 := hP.sub [0, 1, 2, 3, 4, 5, 6] rfl
  have hD : va_D (va_A (cMd a cI R) s.heap.size) (cMd a cI ((f_X6_here R).2)) := hD.sub [0, 1, 2, 3, 4, 5, 6] (by decide) rfl
  obtain ⟨Rn8, eRn8⟩ : ∃ z : SR, z = (f_X6_here R).2 := ⟨_, rfl⟩
  rw [sLet_eq, ← eRn8] at hR
  rw [← eRn8] at hP hD
  have ht9 : WFT Rn8 := by rw [eRn8]; exact hens3
  have hsk10 : Rn8 0 = R 0 := by rw [eRn8]; exact hens4
  have hx11 : FX R Rn8 := by rw [eRn8]; exact hens5
  have hmn12 : MN R Rn8 := by rw [eRn8]; exact hens6
  have hq13 : ((f_X6_here R).1) = -1 ∨ ¬ Rn8 6 2 ≤ Rn8 6 3 := by rw [eRn8]; exact hens7
  refine lv_istore_n (lv' := [(3, .int ((f_X6_here R).1)), (0, .ref (a 0)), (1, .int p1), (2, .int p2)]) hx hb dX6_reads_4 rfl hl (by decide) rfl (fun ls hl => ?_)
  refine lv_aload_n hx hb dX6_reads_5 rfl (lv_at hl 1 rfl) ?_
  refine va_get (D := (dC, dI)) (ci := 6) (v := .int (Rn8 6 3)) (C := RX6) (T := TX6) (N := 15) hx hb hts hin6 hown hK hP 0 rfl rfl 7 (by decide) (hts (.fieldLink RX6 125 "FeedDeskModel" "next" "I") (List.mem_of_getElem? (i := 1) rfl)) (fun _ h9 => h9) rfl dX6_reads_6 ?_
  refine lv_istore (lv' := [(4, .int (Rn8 6 3)), (3, .int ((f_X6_here R).1)), (0, .ref (a 0)), (1, .int p1), (2, .int p2)]) hx hb dX6_reads_9 hl (by decide) rfl (fun ls hl => ?_)
  refine lv_iconst (v := 0) hx hb dX6_reads_11 (by decide) ?_
  refine lv_istore (lv' := [(5, .int 0), (4, .int (Rn8 6 3)), (3, .int ((f_X6_here R).1)), (0, .ref (a 0)), (1, .int p1), (2, .int p2)]) hx hb dX6_reads_12 hl (by decide) rfl (fun ls hl => ?_)
  have hL_14 : ∀ n_14 : Nat,  ∀ (x3_14 : Int32) (x4_14 : Int32) (x5_14 : Int32) (R_14 : SR), ms (vw R_14) < n_14 → WFT R_14 → R_14 0 = R 0 → FX R R_14 → MN R R_14 → FK x4_14 (vw R_14) → MX x4_14 R R_14 → R0 = f_X6_reads_p14 p1 p2 n_14 x3_14 x4_14 x5_14 R_14 → ∀ (H : Heap) (locs : List Loc) (ls : Array Slot), va_P (dC, dI) vwCl (cMd a cI R_14) H → va_D (va_A (cMd a cI R) s.heap.size) (cMd a cI R_14) → va_S (va_A (cMd a cI R) s.heap.size) s.heap H locs → lv_has ls 7 [(0, .ref (a 0)), (1, .int p1), (2, .int p2), (3, .int x3_14), (4, .int x4_14), (5, .int x5_14)] → W p l e (headSpec wsX6_reads rm_X6_reads).room s m ([.ref (a 0), .int p1, .int p2] : List Value).toArray below meth c H locs 0 0 (MQ below (va_Qi (fun (r : Int32) (u : SR) => (r, u) = f_X6_reads R p1 p2 ∧ (WFT u) ∧ (u 0 = R 0) ∧ (FX R u) ∧ (MN R u) ∧ (r = 0 ∨ (¬ u 6 4 < p1 ∧ ¬ p2 < u 6 4)) ∧ (r = 0 ∨ r = 1)) (fun u U => va_P (dC, dI) vwCl (cMd a cI u) U.heap ∧ va_D (va_A (cMd a cI R) s.heap.size) (cMd a cI u)) (va_A (cMd a cI R) s.heap.size)) ([.ref (a 0), .int p1, .int p2] : List Value).toArray s 0 0 (va_A (cMd a cI R) s.heap.size)) (F0 m 14 ls []) := by
    intro n_14
    induction n_14 with
    | zero =>
      intro  x3_14 x4_14 x5_14 R_14 hm_14 ht_14 hsk_14 hx_14 hmn_14 hf_14 hmx_14
      exact absurd hm_14 (Nat.not_lt_zero _)
    | succ n_14 ih_14 =>
      intro  x3_14 x4_14 x5_14 R_14 hm_14 ht_14 hsk_14 hx_14 hmn_14 hf_14 hmx_14 hR H locs ls hP hD hS hl
      rw [f_X6_reads_p14] at hR
      refine lv_aload_n hx hb dX6_reads_14 rfl (lv_at hl 0 rfl) ?_
      refine va_get (D := (dC, dI)) (ci := 6) (v := .int (R_14 6 3)) (C := RX6) (T := TX6) (N := 15) hx hb hts hin6 hown hK hP 0 rfl rfl 7 (by decide) (hts (.fieldLink RX6 125 "FeedDeskModel" "next" "I") (List.mem_of_getElem? (i := 1) rfl)) (fun _ h9 => h9) rfl dX6_reads_15 ?_
      refine lv_aload_n hx hb dX6_reads_18 rfl (lv_at hl 0 rfl) ?_
      refine va_get (D := (dC, dI)) (ci := 6) (v := .int (R_14 6 2)) (C := RX6) (T := TX6) (N := 15) hx hb hts hin6 hown hK hP 0 rfl rfl 6 (by decide) (hts (.fieldLink RX6 122 "FeedDeskModel" "length" "I") (List.mem_of_getElem? (i := 2) rfl)) (fun _ h9 => h9) rfl dX6_reads_19 ?_
      refine lv_icmp_ge (tgt := 89) hx hb dX6_reads_22 (by decide) (fun c14 => ?_) (fun c14 => ?_)
      · rw [if_pos c14] at hR
        refine lv_aload_n hx hb dX6_reads_89 rfl (lv_at hl 0 rfl) ?_
        refine va_get (D := (dC, dI)) (ci := 6) (v := .int (R_14 6 3)) (C := RX6) (T := TX6) (N := 15) hx hb hts hin6 hown hK hP 0 rfl rfl 7 (by decide) (hts (.fieldLink RX6 125 "FeedDeskModel" "next" "I") (List.mem_of_getElem? (i := 1) rfl)) (fun _ h9 => h9) rfl dX6_reads_90 ?_
        refine lv_iload hx hb dX6_reads_93 (lv_at hl 4 rfl) ?_
        refine lv_icmp_le (tgt := 129) hx hb dX6_reads_95 (by decide) (fun c15 => ?_) (fun c15 => ?_)
        · rw [if_pos c15] at hR
          refine lv_iconst (v := 0) hx hb dX6_reads_129 (by decide) ?_
          refine lv_istore (lv' := [(6, .int 0), (0, .ref (a 0)), (1, .int p1), (2, .int p2), (3, .int x3_14), (4, .int x4_14), (5, .int x5_14)]) hx hb dX6_reads_130 hl (by decide) rfl (fun ls hl => ?_)
          refine lv_aload_n hx hb dX6_reads_132 rfl (lv_at hl 1 rfl) ?_
          refine lv_iload hx hb dX6_reads_133 (lv_at hl 0 rfl) ?_
          refine lv_if_eq (tgt := 145) hx hb dX6_reads_135 (by decide) (fun c16 => ?_) (fun c16 => ?_)
          · refine lv_iload hx hb dX6_reads_145 (lv_at hl 5 rfl) ?_
            refine va_put (D := (dC, dI)) (ci := 6) (v := .int x4_14) (ty := .int) (C := RX6) (T := TX6) (N := 15) hx hb hts hin6 tyX6 tyX6_ok nmX6 hown hK hP hD hS 0 rfl rfl 7 (by decide) (hts (.fieldLink RX6 125 "FeedDeskModel" "next" "I") (List.mem_of_getElem? (i := 1) rfl)) (fun _ h9 => h9) rfl (by decide +kernel) rfl rfl (Nat.le_of_ble_eq_true rfl) dX6_reads_147 (fun H17 locs hP hD hS => ?_)
            have hP : va_P (dC, dI) vwCl (cMd a cI (sU R_14 6 3 x4_14)) H17 := hP
            have hD : va_D (va_A (cMd a cI R) s.heap.size) (cMd a cI (sU R_14 6 3 x4_14)) := hD
            obtain ⟨Rn18, eRn18⟩ : ∃ z : SR, z = sU R_14 6 3 x4_14 := ⟨_, rfl⟩
            rw [sLet_eq, ← eRn18] at hR
            rw [← eRn18] at hP hD
            have ht19 : WFT Rn18 := (by rw [eRn18]; exact fkr_first hf_14)
            have hsk20 : Rn18 0 = R 0 := (by rw [eRn18]; exact hsk_14)
            have hx21 : FX R Rn18 := (by rw [eRn18]; exact hx_14)
            have hmn22 : MN R Rn18 := (by rw [eRn18]; exact hmx_14)
            refine lv_aload_n hx hb dX6_reads_150 rfl (lv_at hl 1 rfl) ?_
            refine lv_iload hx hb dX6_reads_151 (lv_at hl 6 rfl) ?_
            refine va_put (D := (dC, dI)) (ci := 6) (v := .int x5_14) (ty := .int) (C := RX6) (T := TX6) (N := 15) hx hb hts hin6 tyX6 tyX6_ok nmX6 hown hK hP hD hS 0 rfl rfl 8 (by decide) (hts (.fieldLink RX6 132 "FeedDeskModel" "number" "I") (List.mem_of_getElem? (i := 5) rfl)) (fun _ h9 => h9) rfl (by decide +kernel) rfl rfl (Nat.le_of_ble_eq_true rfl) dX6_reads_153 (fun H23 locs hP hD hS => ?_)
            have hP : va_P (dC, dI) vwCl (cMd a cI (sU Rn18 6 4 x5_14)) H23 := hP
            have hD : va_D (va_A (cMd a cI R) s.heap.size) (cMd a cI (sU Rn18 6 4 x5_14)) := hD
            obtain ⟨Rn24, eRn24⟩ : ∃ z : SR, z = sU Rn18 6 4 x5_14 := ⟨_, rfl⟩
            rw [sLet_eq, ← eRn24] at hR
            rw [← eRn24] at hP hD
            have ht25 : WFT Rn24 := (by rw [eRn24]; exact ht19)
            have hsk26 : Rn24 0 = R 0 := (by rw [eRn24]; exact hsk20)
            have hx27 : FX R Rn24 := (by rw [eRn24]; exact hx21)
            have hmn28 : MN R Rn24 := (by rw [eRn24]; exact hmn22)
            refine lv_iload hx hb dX6_reads_156 (lv_at hl 0 rfl) ?_
            exact W.zret (v := 0) hx hb hr rfl (fun t ht hWw => ⟨⟨0, Rn24, rfl, ⟨hR.symm.trans eR, ht25, hsk26, hx27, hmn28, (Or.inl rfl), (Or.inl rfl)⟩, by rw [ht]; exact hP, hD⟩, hS.F ht⟩) hS.2.2 dX6_reads_158
          · exact absurd c16 (by decide)
        · rw [if_neg c15] at hR
          refine lv_iload_n hx hb dX6_reads_98 rfl (lv_at hl 3 rfl) ?_
          refine lv_bipush (v := 48) hx hb dX6_reads_99 (by decide) ?_
          refine lv_icmp_ne (tgt := 115) hx hb dX6_reads_101 (by decide) (fun c29 => ?_) (fun c29 => ?_)
          · rw [if_neg c29] at hR
            refine lv_iload hx hb dX6_reads_115 (lv_at hl 5 rfl) ?_
            refine lv_iload_n hx hb dX6_reads_117 rfl (lv_at hl 1 rfl) ?_
            refine lv_iload_n hx hb dX6_reads_118 rfl (lv_at hl 2 rfl) ?_
            have hFc : ∀ q : Nat, va_A [] H.size q → (va_A (cMd a cI R) s.heap.size) q := roF hS hA
            refine va_calli (va_runS (As := [.int x5_14, .int p1, .int p2]) (rest := []) ⟨hx, hb, hml, hown, hts⟩ (c_X6_in l dC dI cI cC cS H.size x5_14 p1 p2) (va_cwS 3 hts gX6_reads_X6_in rfl rfl rfl (by decide +kernel) ⟨Nat.le_of_ble_eq_true rfl, Nat.le_of_ble_eq_true rfl⟩) (pS hK (va_P_nil) (va_D_nil) hN) rfl rfl hl.1 rfl (lv_room (Nat.le_of_ble_eq_true rfl)) dX6_reads_119 ⟨Nat.le_of_ble_eq_true rfl, Nat.le_of_ble_eq_true rfl⟩) hS (fun q _ h => hFc q h) hFc (fun r_30 u_30 t_30 H31 locs ht hvm hw hB hz1 hk1 hS => ?_)
            obtain ⟨hw, hre32⟩ := hw
            subst hw
            have hP := ro_keep hP hk1
            refine lv_if_eq (tgt := 129) hx hb dX6_reads_122 (by decide) (fun c33 => ?_) (fun c33 => ?_)
            · rw [if_pos c33] at hR
              refine lv_iconst (v := 0) hx hb dX6_reads_129 (by decide) ?_
              refine lv_istore (lv' := [(6, .int 0), (0, .ref (a 0)), (1, .int p1), (2, .int p2), (3, .int x3_14), (4, .int x4_14), (5, .int x5_14)]) hx hb dX6_reads_130 hl (by decide) rfl (fun ls hl => ?_)
              refine lv_aload_n hx hb dX6_reads_132 rfl (lv_at hl 1 rfl) ?_
              refine lv_iload hx hb dX6_reads_133 (lv_at hl 0 rfl) ?_
              refine lv_if_eq (tgt := 145) hx hb dX6_reads_135 (by decide) (fun c34 => ?_) (fun c34 => ?_)
              · refine lv_iload hx hb dX6_reads_145 (lv_at hl 5 rfl) ?_
                refine va_put (D := (dC, dI)) (ci := 6) (v := .int x4_14) (ty := .int) (C := RX6) (T := TX6) (N := 15) hx hb hts hin6 tyX6 tyX6_ok nmX6 hown hK hP hD hS 0 rfl rfl 7 (by decide) (hts (.fieldLink RX6 125 "FeedDeskModel" "next" "I") (List.mem_of_getElem? (i := 1) rfl)) (fun _ h9 => h9) rfl (by decide +kernel) rfl rfl (Nat.le_of_ble_eq_true rfl) dX6_reads_147 (fun H35 locs hP hD hS => ?_)
                have hP : va_P (dC, dI) vwCl (cMd a cI (sU R_14 6 3 x4_14)) H35 := hP
                have hD : va_D (va_A (cMd a cI R) s.heap.size) (cMd a cI (sU R_14 6 3 x4_14)) := hD
                obtain ⟨Rn36, eRn36⟩ : ∃ z : SR, z = sU R_14 6 3 x4_14 := ⟨_, rfl⟩
                rw [sLet_eq, ← eRn36] at hR
                rw [← eRn36] at hP hD
                have ht37 : WFT Rn36 := (by rw [eRn36]; exact fkr_first hf_14)
                have hsk38 : Rn36 0 = R 0 := (by rw [eRn36]; exact hsk_14)
                have hx39 : FX R Rn36 := (by rw [eRn36]; exact hx_14)
                have hmn40 : MN R Rn36 := (by rw [eRn36]; exact hmx_14)
                refine lv_aload_n hx hb dX6_reads_150 rfl (lv_at hl 1 rfl) ?_
                refine lv_iload hx hb dX6_reads_151 (lv_at hl 6 rfl) ?_
                refine va_put (D := (dC, dI)) (ci := 6) (v := .int x5_14) (ty := .int) (C := RX6) (T := TX6) (N := 15) hx hb hts hin6 tyX6 tyX6_ok nmX6 hown hK hP hD hS 0 rfl rfl 8 (by decide) (hts (.fieldLink RX6 132 "FeedDeskModel" "number" "I") (List.mem_of_getElem? (i := 5) rfl)) (fun _ h9 => h9) rfl (by decide +kernel) rfl rfl (Nat.le_of_ble_eq_true rfl) dX6_reads_153 (fun H41 locs hP hD hS => ?_)
                have hP : va_P (dC, dI) vwCl (cMd a cI (sU Rn36 6 4 x5_14)) H41 := hP
                have hD : va_D (va_A (cMd a cI R) s.heap.size) (cMd a cI (sU Rn36 6 4 x5_14)) := hD
                obtain ⟨Rn42, eRn42⟩ : ∃ z : SR, z = sU Rn36 6 4 x5_14 := ⟨_, rfl⟩
                rw [sLet_eq, ← eRn42] at hR
                rw [← eRn42] at hP hD
                have ht43 : WFT Rn42 := (by rw [eRn42]; exact ht37)
                have hsk44 : Rn42 0 = R 0 := (by rw [eRn42]; exact hsk38)
                have hx45 : FX R Rn42 := (by rw [eRn42]; exact hx39)
                have hmn46 : MN R Rn42 := (by rw [eRn42]; exact hmn40)
                refine lv_iload hx hb dX6_reads_156 (lv_at hl 0 rfl) ?_
                exact W.zret (v := 0) hx hb hr rfl (fun t ht hWw => ⟨⟨0, Rn42, rfl, ⟨hR.symm.trans eR, ht43, hsk44, hx45, hmn46, (Or.inl rfl), (Or.inl rfl)⟩, by rw [ht]; exact hP, hD⟩, hS.F ht⟩) hS.2.2 dX6_reads_158
              · exact absurd c34 (by decide)
            · rw [if_neg c33] at hR
              refine lv_iconst (v := 1) hx hb dX6_reads_125 (by decide) ?_
              refine lv_goto (tgt := 130) hx hb dX6_reads_126 (by decide) ?_
              refine lv_istore (lv' := [(6, .int 1), (0, .ref (a 0)), (1, .int p1), (2, .int p2), (3, .int x3_14), (4, .int x4_14), (5, .int x5_14)]) hx hb dX6_reads_130 hl (by decide) rfl (fun ls hl => ?_)
              refine lv_aload_n hx hb dX6_reads_132 rfl (lv_at hl 1 rfl) ?_
              refine lv_iload hx hb dX6_reads_133 (lv_at hl 0 rfl) ?_
              refine lv_if_eq (tgt := 145) hx hb dX6_reads_135 (by decide) (fun c47 => ?_) (fun c47 => ?_)
              · exact absurd c47 (by decide)
              · refine lv_aload_n hx hb dX6_reads_138 rfl (lv_at hl 1 rfl) ?_
                refine va_get (D := (dC, dI)) (ci := 6) (v := .int (R_14 6 3)) (C := RX6) (T := TX6) (N := 15) hx hb hts hin6 hown hK hP 0 rfl rfl 7 (by decide) (hts (.fieldLink RX6 125 "FeedDeskModel" "next" "I") (List.mem_of_getElem? (i := 1) rfl)) (fun _ h9 => h9) rfl dX6_reads_139 ?_
                refine lv_goto (tgt := 147) hx hb dX6_reads_142 (by decide) ?_
                refine va_put (D := (dC, dI)) (ci := 6) (v := .int (R_14 6 3)) (ty := .int) (C := RX6) (T := TX6) (N := 15) hx hb hts hin6 tyX6 tyX6_ok nmX6 hown hK hP hD hS 0 rfl rfl 7 (by decide) (hts (.fieldLink RX6 125 "FeedDeskModel" "next" "I") (List.mem_of_getElem? (i := 1) rfl)) (fun _ h9 => h9) rfl (by decide +kernel) rfl rfl (Nat.le_of_ble_eq_true rfl) dX6_reads_147 (fun H48 locs hP hD hS => ?_)
                have hP : va_P (dC, dI) vwCl (cMd a cI (sU R_14 6 3 (R_14 6 3))) H48 := hP
                have hD : va_D (va_A (cMd a cI R) s.heap.size) (cMd a cI (sU R_14 6 3 (R_14 6 3))) := hD
                obtain ⟨Rn49, eRn49⟩ : ∃ z : SR, z = sU R_14 6 3 (R_14 6 3) := ⟨_, rfl⟩
                rw [sLet_eq, ← eRn49] at hR
                rw [← eRn49] at hP hD
                have ht50 : WFT Rn49 := (by rw [eRn49]; exact ht_14)
                have hsk51 : Rn49 0 = R 0 := (by rw [eRn49]; exact hsk_14)
                have hx52 : FX R Rn49 := (by rw [eRn49]; exact hx_14)
                have hmn53 : MN R Rn49 := (by rw [eRn49]; exact hmn_14)
                refine lv_aload_n hx hb dX6_reads_150 rfl (lv_at hl 1 rfl) ?_
                refine lv_iload hx hb dX6_reads_151 (lv_at hl 6 rfl) ?_
                refine va_put (D := (dC, dI)) (ci := 6) (v := .int x5_14) (ty := .int) (C := RX6) (T := TX6) (N := 15) hx hb hts hin6 tyX6 tyX6_ok nmX6 hown hK hP hD hS 0 rfl rfl 8 (by decide) (hts (.fieldLink RX6 132 "FeedDeskModel" "number" "I") (List.mem_of_getElem? (i := 5) rfl)) (fun _ h9 => h9) rfl (by decide +kernel) rfl rfl (Nat.le_of_ble_eq_true rfl) dX6_reads_153 (fun H54 locs hP hD hS => ?_)
                have hP : va_P (dC, dI) vwCl (cMd a cI (sU Rn49 6 4 x5_14)) H54 := hP
                have hD : va_D (va_A (cMd a cI R) s.heap.size) (cMd a cI (sU Rn49 6 4 x5_14)) := hD
                obtain ⟨Rn55, eRn55⟩ : ∃ z : SR, z = sU Rn49 6 4 x5_14 := ⟨_, rfl⟩
                rw [sLet_eq, ← eRn55] at hR
                rw [← eRn55] at hP hD
                have ht56 : WFT Rn55 := (by rw [eRn55]; exact ht50)
                have hsk57 : Rn55 0 = R 0 := (by rw [eRn55]; exact hsk51)
                have hx58 : FX R Rn55 := (by rw [eRn55]; exact hx52)
                have hmn59 : MN R Rn55 := (by rw [eRn55]; exact hmn53)
                refine lv_iload hx hb dX6_reads_156 (lv_at hl 0 rfl) ?_
                exact W.zret (v := 1) hx hb hr rfl (fun t ht hWw => ⟨⟨1, Rn55, rfl, ⟨hR.symm.trans eR, ht56, hsk57, hx58, hmn59, (Or.inr (by rw [eRn55]; exact in_split c33)), (Or.inr rfl)⟩, by rw [ht]; exact hP, hD⟩, hS.F ht⟩) hS.2.2 dX6_reads_158
          · rw [if_pos c29] at hR
            refine lv_aload_n hx hb dX6_reads_104 rfl (lv_at hl 0 rfl) ?_
            refine va_get (D := (dC, dI)) (ci := 6) (v := .int (R_14 6 3)) (C := RX6) (T := TX6) (N := 15) hx hb hts hin6 hown hK hP 0 rfl rfl 7 (by decide) (hts (.fieldLink RX6 125 "FeedDeskModel" "next" "I") (List.mem_of_getElem? (i := 1) rfl)) (fun _ h9 => h9) rfl dX6_reads_105 ?_
            refine lv_iload hx hb dX6_reads_108 (lv_at hl 4 rfl) ?_
            refine lv_iconst (v := 1) hx hb dX6_reads_110 (by decide) ?_
            refine lv_iadd hx hb dX6_reads_111 ?_
            refine lv_icmp_ne (tgt := 129) hx hb dX6_reads_112 (by decide) (fun c60 => ?_) (fun c60 => ?_)
            · rw [if_neg c60] at hR
              refine lv_iconst (v := 0) hx hb dX6_reads_129 (by decide) ?_
              refine lv_istore (lv' := [(6, .int 0), (0, .ref (a 0)), (1, .int p1), (2, .int p2), (3, .int x3_14), (4, .int x4_14), (5, .int x5_14)]) hx hb dX6_reads_130 hl (by decide) rfl (fun ls hl => ?_)
              refine lv_aload_n hx hb dX6_reads_132 rfl (lv_at hl 1 rfl) ?_
              refine lv_iload hx hb dX6_reads_133 (lv_at hl 0 rfl) ?_
              refine lv_if_eq (tgt := 145) hx hb dX6_reads_135 (by decide) (fun c61 => ?_) (fun c61 => ?_)
              · refine lv_iload hx hb dX6_reads_145 (lv_at hl 5 rfl) ?_
                refine va_put (D := (dC, dI)) (ci := 6) (v := .int x4_14) (ty := .int) (C := RX6) (T := TX6) (N := 15) hx hb hts hin6 tyX6 tyX6_ok nmX6 hown hK hP hD hS 0 rfl rfl 7 (by decide) (hts (.fieldLink RX6 125 "FeedDeskModel" "next" "I") (List.mem_of_getElem? (i := 1) rfl)) (fun _ h9 => h9) rfl (by decide +kernel) rfl rfl (Nat.le_of_ble_eq_true rfl) dX6_reads_147 (fun H62 locs hP hD hS => ?_)
                have hP : va_P (dC, dI) vwCl (cMd a cI (sU R_14 6 3 x4_14)) H62 := hP
                have hD : va_D (va_A (cMd a cI R) s.heap.size) (cMd a cI (sU R_14 6 3 x4_14)) := hD
                obtain ⟨Rn63, eRn63⟩ : ∃ z : SR, z = sU R_14 6 3 x4_14 := ⟨_, rfl⟩
                rw [sLet_eq, ← eRn63] at hR
                rw [← eRn63] at hP hD
                have ht64 : WFT Rn63 := (by rw [eRn63]; exact fkr_first hf_14)
                have hsk65 : Rn63 0 = R 0 := (by rw [eRn63]; exact hsk_14)
                have hx66 : FX R Rn63 := (by rw [eRn63]; exact hx_14)
                have hmn67 : MN R Rn63 := (by rw [eRn63]; exact hmx_14)
                refine lv_aload_n hx hb dX6_reads_150 rfl (lv_at hl 1 rfl) ?_
                refine lv_iload hx hb dX6_reads_151 (lv_at hl 6 rfl) ?_
                refine va_put (D := (dC, dI)) (ci := 6) (v := .int x5_14) (ty := .int) (C := RX6) (T := TX6) (N := 15) hx hb hts hin6 tyX6 tyX6_ok nmX6 hown hK hP hD hS 0 rfl rfl 8 (by decide) (hts (.fieldLink RX6 132 "FeedDeskModel" "number" "I") (List.mem_of_getElem? (i := 5) rfl)) (fun _ h9 => h9) rfl (by decide +kernel) rfl rfl (Nat.le_of_ble_eq_true rfl) dX6_reads_153 (fun H68 locs hP hD hS => ?_)
                have hP : va_P (dC, dI) vwCl (cMd a cI (sU Rn63 6 4 x5_14)) H68 := hP
                have hD : va_D (va_A (cMd a cI R) s.heap.size) (cMd a cI (sU Rn63 6 4 x5_14)) := hD
                obtain ⟨Rn69, eRn69⟩ : ∃ z : SR, z = sU Rn63 6 4 x5_14 := ⟨_, rfl⟩
                rw [sLet_eq, ← eRn69] at hR
                rw [← eRn69] at hP hD
                have ht70 : WFT Rn69 := (by rw [eRn69]; exact ht64)
                have hsk71 : Rn69 0 = R 0 := (by rw [eRn69]; exact hsk65)
                have hx72 : FX R Rn69 := (by rw [eRn69]; exact hx66)
                have hmn73 : MN R Rn69 := (by rw [eRn69]; exact hmn67)
                refine lv_iload hx hb dX6_reads_156 (lv_at hl 0 rfl) ?_
                exact W.zret (v := 0) hx hb hr rfl (fun t ht hWw => ⟨⟨0, Rn69, rfl, ⟨hR.symm.trans eR, ht70, hsk71, hx72, hmn73, (Or.inl rfl), (Or.inl rfl)⟩, by rw [ht]; exact hP, hD⟩, hS.F ht⟩) hS.2.2 dX6_reads_158
              · exact absurd c61 (by decide)
            · rw [if_pos c60] at hR
              refine lv_iload hx hb dX6_reads_115 (lv_at hl 5 rfl) ?_
              refine lv_iload_n hx hb dX6_reads_117 rfl (lv_at hl 1 rfl) ?_
              refine lv_iload_n hx hb dX6_reads_118 rfl (lv_at hl 2 rfl) ?_
              have hFc : ∀ q : Nat, va_A [] H.size q → (va_A (cMd a cI R) s.heap.size) q := roF hS hA
              refine va_calli (va_runS (As := [.int x5_14, .int p1, .int p2]) (rest := []) ⟨hx, hb, hml, hown, hts⟩ (c_X6_in l dC dI cI cC cS H.size x5_14 p1 p2) (va_cwS 3 hts gX6_reads_X6_in rfl rfl rfl (by decide +kernel) ⟨Nat.le_of_ble_eq_true rfl, Nat.le_of_ble_eq_true rfl⟩) (pS hK (va_P_nil) (va_D_nil) hN) rfl rfl hl.1 rfl (lv_room (Nat.le_of_ble_eq_true rfl)) dX6_reads_119 ⟨Nat.le_of_ble_eq_true rfl, Nat.le_of_ble_eq_true rfl⟩) hS (fun q _ h => hFc q h) hFc (fun r_74 u_74 t_74 H75 locs ht hvm hw hB hz1 hk1 hS => ?_)
              obtain ⟨hw, hre76⟩ := hw
              subst hw
              have hP := ro_keep hP hk1
              refine lv_if_eq (tgt := 129) hx hb dX6_reads_122 (by decide) (fun c77 => ?_) (fun c77 => ?_)
              · rw [if_pos c77] at hR
                refine lv_iconst (v := 0) hx hb dX6_reads_129 (by decide) ?_
                refine lv_istore (lv' := [(6, .int 0), (0, .ref (a 0)), (1, .int p1), (2, .int p2), (3, .int x3_14), (4, .int x4_14), (5, .int x5_14)]) hx hb dX6_reads_130 hl (by decide) rfl (fun ls hl => ?_)
                refine lv_aload_n hx hb dX6_reads_132 rfl (lv_at hl 1 rfl) ?_
                refine lv_iload hx hb dX6_reads_133 (lv_at hl 0 rfl) ?_
                refine lv_if_eq (tgt := 145) hx hb dX6_reads_135 (by decide) (fun c78 => ?_) (fun c78 => ?_)
                · refine lv_iload hx hb dX6_reads_145 (lv_at hl 5 rfl) ?_
                  refine va_put (D := (dC, dI)) (ci := 6) (v := .int x4_14) (ty := .int) (C := RX6) (T := TX6) (N := 15) hx hb hts hin6 tyX6 tyX6_ok nmX6 hown hK hP hD hS 0 rfl rfl 7 (by decide) (hts (.fieldLink RX6 125 "FeedDeskModel" "next" "I") (List.mem_of_getElem? (i := 1) rfl)) (fun _ h9 => h9) rfl (by decide +kernel) rfl rfl (Nat.le_of_ble_eq_true rfl) dX6_reads_147 (fun H79 locs hP hD hS => ?_)
                  have hP : va_P (dC, dI) vwCl (cMd a cI (sU R_14 6 3 x4_14)) H79 := hP
                  have hD : va_D (va_A (cMd a cI R) s.heap.size) (cMd a cI (sU R_14 6 3 x4_14)) := hD
                  obtain ⟨Rn80, eRn80⟩ : ∃ z : SR, z = sU R_14 6 3 x4_14 := ⟨_, rfl⟩
                  rw [sLet_eq, ← eRn80] at hR
                  rw [← eRn80] at hP hD
                  have ht81 : WFT Rn80 := (by rw [eRn80]; exact fkr_first hf_14)
                  have hsk82 : Rn80 0 = R 0 := (by rw [eRn80]; exact hsk_14)
                  have hx83 : FX R Rn80 := (by rw [eRn80]; exact hx_14)
                  have hmn84 : MN R Rn80 := (by rw [eRn80]; exact hmx_14)
                  refine lv_aload_n hx hb dX6_reads_150 rfl (lv_at hl 1 rfl) ?_
                  refine lv_iload hx hb dX6_reads_151 (lv_at hl 6 rfl) ?_
                  refine va_put (D := (dC, dI)) (ci := 6) (v := .int x5_14) (ty := .int) (C := RX6) (T := TX6) (N := 15) hx hb hts hin6 tyX6 tyX6_ok nmX6 hown hK hP hD hS 0 rfl rfl 8 (by decide) (hts (.fieldLink RX6 132 "FeedDeskModel" "number" "I") (List.mem_of_getElem? (i := 5) rfl)) (fun _ h9 => h9) rfl (by decide +kernel) rfl rfl (Nat.le_of_ble_eq_true rfl) dX6_reads_153 (fun H85 locs hP hD hS => ?_)
                  have hP : va_P (dC, dI) vwCl (cMd a cI (sU Rn80 6 4 x5_14)) H85 := hP
                  have hD : va_D (va_A (cMd a cI R) s.heap.size) (cMd a cI (sU Rn80 6 4 x5_14)) := hD
                  obtain ⟨Rn86, eRn86⟩ : ∃ z : SR, z = sU Rn80 6 4 x5_14 := ⟨_, rfl⟩
                  rw [sLet_eq, ← eRn86] at hR
                  rw [← eRn86] at hP hD
                  have ht87 : WFT Rn86 := (by rw [eRn86]; exact ht81)
                  have hsk88 : Rn86 0 = R 0 := (by rw [eRn86]; exact hsk82)
                  have hx89 : FX R Rn86 := (by rw [eRn86]; exact hx83)
                  have hmn90 : MN R Rn86 := (by rw [eRn86]; exact hmn84)
                  refine lv_iload hx hb dX6_reads_156 (lv_at hl 0 rfl) ?_
                  exact W.zret (v := 0) hx hb hr rfl (fun t ht hWw => ⟨⟨0, Rn86, rfl, ⟨hR.symm.trans eR, ht87, hsk88, hx89, hmn90, (Or.inl rfl), (Or.inl rfl)⟩, by rw [ht]; exact hP, hD⟩, hS.F ht⟩) hS.2.2 dX6_reads_158
                · exact absurd c78 (by decide)
              · rw [if_neg c77] at hR
                refine lv_iconst (v := 1) hx hb dX6_reads_125 (by decide) ?_
                refine lv_goto (tgt := 130) hx hb dX6_reads_126 (by decide) ?_
                refine lv_istore (lv' := [(6, .int 1), (0, .ref (a 0)), (1, .int p1), (2, .int p2), (3, .int x3_14), (4, .int x4_14), (5, .int x5_14)]) hx hb dX6_reads_130 hl (by decide) rfl (fun ls hl => ?_)
                refine lv_aload_n hx hb dX6_reads_132 rfl (lv_at hl 1 rfl) ?_
                refine lv_iload hx hb dX6_reads_133 (lv_at hl 0 rfl) ?_
                refine lv_if_eq (tgt := 145) hx hb dX6_reads_135 (by decide) (fun c91 => ?_) (fun c91 => ?_)
                · exact absurd c91 (by decide)
                · refine lv_aload_n hx hb dX6_reads_138 rfl (lv_at hl 1 rfl) ?_
                  refine va_get (D := (dC, dI)) (ci := 6) (v := .int (R_14 6 3)) (C := RX6) (T := TX6) (N := 15) hx hb hts hin6 hown hK hP 0 rfl rfl 7 (by decide) (hts (.fieldLink RX6 125 "FeedDeskModel" "next" "I") (List.mem_of_getElem? (i := 1) rfl)) (fun _ h9 => h9) rfl dX6_reads_139 ?_
                  refine lv_goto (tgt := 147) hx hb dX6_reads_142 (by decide) ?_
                  refine va_put (D := (dC, dI)) (ci := 6) (v := .int (R_14 6 3)) (ty := .int) (C := RX6) (T := TX6) (N := 15) hx hb hts hin6 tyX6 tyX6_ok nmX6 hown hK hP hD hS 0 rfl rfl 7 (by decide) (hts (.fieldLink RX6 125 "FeedDeskModel" "next" "I") (List.mem_of_getElem? (i := 1) rfl)) (fun _ h9 => h9) rfl (by decide +kernel) rfl rfl (Nat.le_of_ble_eq_true rfl) dX6_reads_147 (fun H92 locs hP hD hS => ?_)
                  have hP : va_P (dC, dI) vwCl (cMd a cI (sU R_14 6 3 (R_14 6 3))) H92 := hP
                  have hD : va_D (va_A (cMd a cI R) s.heap.size) (cMd a cI (sU R_14 6 3 (R_14 6 3))) := hD
                  obtain ⟨Rn93, eRn93⟩ : ∃ z : SR, z = sU R_14 6 3 (R_14 6 3) := ⟨_, rfl⟩
                  rw [sLet_eq, ← eRn93] at hR
                  rw [← eRn93] at hP hD
                  have ht94 : WFT Rn93 := (by rw [eRn93]; exact ht_14)
                  have hsk95 : Rn93 0 = R 0 := (by rw [eRn93]; exact hsk_14)
                  have hx96 : FX R Rn93 := (by rw [eRn93]; exact hx_14)
                  have hmn97 : MN R Rn93 := (by rw [eRn93]; exact hmn_14)
                  refine lv_aload_n hx hb dX6_reads_150 rfl (lv_at hl 1 rfl) ?_
                  refine lv_iload hx hb dX6_reads_151 (lv_at hl 6 rfl) ?_
                  refine va_put (D := (dC, dI)) (ci := 6) (v := .int x5_14) (ty := .int) (C := RX6) (T := TX6) (N := 15) hx hb hts hin6 tyX6 tyX6_ok nmX6 hown hK hP hD hS 0 rfl rfl 8 (by decide) (hts (.fieldLink RX6 132 "FeedDeskModel" "number" "I") (List.mem_of_getElem? (i := 5) rfl)) (fun _ h9 => h9) rfl (by decide +kernel) rfl rfl (Nat.le_of_ble_eq_true rfl) dX6_reads_153 (fun H98 locs hP hD hS => ?_)
                  have hP : va_P (dC, dI) vwCl (cMd a cI (sU Rn93 6 4 x5_14)) H98 := hP
                  have hD : va_D (va_A (cMd a cI R) s.heap.size) (cMd a cI (sU Rn93 6 4 x5_14)) := hD
                  obtain ⟨Rn99, eRn99⟩ : ∃ z : SR, z = sU Rn93 6 4 x5_14 := ⟨_, rfl⟩
                  rw [sLet_eq, ← eRn99] at hR
                  rw [← eRn99] at hP hD
                  have ht100 : WFT Rn99 := (by rw [eRn99]; exact ht94)
                  have hsk101 : Rn99 0 = R 0 := (by rw [eRn99]; exact hsk95)
                  have hx102 : FX R Rn99 := (by rw [eRn99]; exact hx96)
                  have hmn103 : MN R Rn99 := (by rw [eRn99]; exact hmn97)
                  refine lv_iload hx hb dX6_reads_156 (lv_at hl 0 rfl) ?_
                  exact W.zret (v := 1) hx hb hr rfl (fun t ht hWw => ⟨⟨1, Rn99, rfl, ⟨hR.symm.trans eR, ht100, hsk101, hx102, hmn103, (Or.inr (by rw [eRn99]; exact in_split c77)), (Or.inr rfl)⟩, by rw [ht]; exact hP, hD⟩, hS.F ht⟩) hS.2.2 dX6_reads_158
      · rw [if_neg c14] at hR
        refine lv_aload_n hx hb dX6_reads_25 rfl (lv_at hl 0 rfl) ?_
        refine va_get (D := (dC, dI)) (ci := 6) (v := .ref (a 4)) (C := RX6) (T := TX6) (N := 15) hx hb hts hin6 hown hK hP 0 rfl rfl 5 (by decide) (hts (.fieldLink RX6 19 "FeedDeskModel" "text" "[I") (List.mem_of_getElem? (i := 3) rfl)) (fun _ h9 => h9) rfl dX6_reads_26 ?_
        refine lv_aload_n hx hb dX6_reads_29 rfl (lv_at hl 0 rfl) ?_
        refine va_get (D := (dC, dI)) (ci := 6) (v := .int (R_14 6 3)) (C := RX6) (T := TX6) (N := 15) hx hb hts hin6 hown hK hP 0 rfl rfl 7 (by decide) (hts (.fieldLink RX6 125 "FeedDeskModel" "next" "I") (List.mem_of_getElem? (i := 1) rfl)) (fun _ h9 => h9) rfl dX6_reads_30 ?_
        refine va_iald (f := R_14 3) hx hb hK hP 4 0 rfl rfl (wft_in ht_14 c14) dX6_reads_33 ?_
        refine lv_bipush (v := 48) hx hb dX6_reads_34 (by decide) ?_
        refine lv_bipush (v := 57) hx hb dX6_reads_36 (by decide) ?_
        have hFc : ∀ q : Nat, va_A [] H.size q → (va_A (cMd a cI R) s.heap.size) q := roF hS hA
        refine va_calli (va_runS (As := [.int (R_14 3 (R_14 6 3).toNatClampNeg), .int 48, .int 57]) (rest := []) ⟨hx, hb, hml, hown, hts⟩ (c_X6_in l dC dI cI cC cS H.size (R_14 3 (R_14 6 3).toNatClampNeg) 48 57) (va_cwS 3 hts gX6_reads_X6_in rfl rfl rfl (by decide +kernel) ⟨Nat.le_of_ble_eq_true rfl, Nat.le_of_ble_eq_true rfl⟩) (pS hK (va_P_nil) (va_D_nil) hN) rfl rfl hl.1 rfl (lv_room (Nat.le_of_ble_eq_true rfl)) dX6_reads_38 ⟨Nat.le_of_ble_eq_true rfl, Nat.le_of_ble_eq_true rfl⟩) hS (fun q _ h => hFc q h) hFc (fun r_104 u_104 t_104 H105 locs ht hvm hw hB hz1 hk1 hS => ?_)
        obtain ⟨hw, hre106⟩ := hw
        subst hw
        have hP := ro_keep hP hk1
        refine lv_if_eq (tgt := 89) hx hb dX6_reads_41 (by decide) (fun c107 => ?_) (fun c107 => ?_)
        · rw [if_pos c107] at hR
          refine lv_aload_n hx hb dX6_reads_89 rfl (lv_at hl 0 rfl) ?_
          refine va_get (D := (dC, dI)) (ci := 6) (v := .int (R_14 6 3)) (C := RX6) (T := TX6) (N := 15) hx hb hts hin6 hown hK hP 0 rfl rfl 7 (by decide) (hts (.fieldLink RX6 125 "FeedDeskModel" "next" "I") (List.mem_of_getElem? (i := 1) rfl)) (fun _ h9 => h9) rfl dX6_reads_90 ?_
          refine lv_iload hx hb dX6_reads_93 (lv_at hl 4 rfl) ?_
          refine lv_icmp_le (tgt := 129) hx hb dX6_reads_95 (by decide) (fun c108 => ?_) (fun c108 => ?_)
          · rw [if_pos c108] at hR
            refine lv_iconst (v := 0) hx hb dX6_reads_129 (by decide) ?_
            refine lv_istore (lv' := [(6, .int 0), (0, .ref (a 0)), (1, .int p1), (2, .int p2), (3, .int x3_14), (4, .int x4_14), (5, .int x5_14)]) hx hb dX6_reads_130 hl (by decide) rfl (fun ls hl => ?_)
            refine lv_aload_n hx hb dX6_reads_132 rfl (lv_at hl 1 rfl) ?_
            refine lv_iload hx hb dX6_reads_133 (lv_at hl 0 rfl) ?_
            refine lv_if_eq (tgt := 145) hx hb dX6_reads_135 (by decide) (fun c109 => ?_) (fun c109 => ?_)
            · refine lv_iload hx hb dX6_reads_145 (lv_at hl 5 rfl) ?_
              refine va_put (D := (dC, dI)) (ci := 6) (v := .int x4_14) (ty := .int) (C := RX6) (T := TX6) (N := 15) hx hb hts hin6 tyX6 tyX6_ok nmX6 hown hK hP hD hS 0 rfl rfl 7 (by decide) (hts (.fieldLink RX6 125 "FeedDeskModel" "next" "I") (List.mem_of_getElem? (i := 1) rfl)) (fun _ h9 => h9) rfl (by decide +kernel) rfl rfl (Nat.le_of_ble_eq_true rfl) dX6_reads_147 (fun H110 locs hP hD hS => ?_)
              have hP : va_P (dC, dI) vwCl (cMd a cI (sU R_14 6 3 x4_14)) H110 := hP
              have hD : va_D (va_A (cMd a cI R) s.heap.size) (cMd a cI (sU R_14 6 3 x4_14)) := hD
              obtain ⟨Rn111, eRn111⟩ : ∃ z : SR, z = sU R_14 6 3 x4_14 := ⟨_, rfl⟩
              rw [sLet_eq, ← eRn111] at hR
              rw [← eRn111] at hP hD
              have ht112 : WFT Rn111 := (by rw [eRn111]; exact fkr_first hf_14)
              have hsk113 : Rn111 0 = R 0 := (by rw [eRn111]; exact hsk_14)
              have hx114 : FX R Rn111 := (by rw [eRn111]; exact hx_14)
              have hmn115 : MN R Rn111 := (by rw [eRn111]; exact hmx_14)
              refine lv_aload_n hx hb dX6_reads_150 rfl (lv_at hl 1 rfl) ?_
              refine lv_iload hx hb dX6_reads_151 (lv_at hl 6 rfl) ?_
              refine va_put (D := (dC, dI)) (ci := 6) (v := .int x5_14) (ty := .int) (C := RX6) (T := TX6) (N := 15) hx hb hts hin6 tyX6 tyX6_ok nmX6 hown hK hP hD hS 0 rfl rfl 8 (by decide) (hts (.fieldLink RX6 132 "FeedDeskModel" "number" "I") (List.mem_of_getElem? (i := 5) rfl)) (fun _ h9 => h9) rfl (by decide +kernel) rfl rfl (Nat.le_of_ble_eq_true rfl) dX6_reads_153 (fun H116 locs hP hD hS => ?_)
              have hP : va_P (dC, dI) vwCl (cMd a cI (sU Rn111 6 4 x5_14)) H116 := hP
              have hD : va_D (va_A (cMd a cI R) s.heap.size) (cMd a cI (sU Rn111 6 4 x5_14)) := hD
              obtain ⟨Rn117, eRn117⟩ : ∃ z : SR, z = sU Rn111 6 4 x5_14 := ⟨_, rfl⟩
              rw [sLet_eq, ← eRn117] at hR
              rw [← eRn117] at hP hD
              have ht118 : WFT Rn117 := (by rw [eRn117]; exact ht112)
              have hsk119 : Rn117 0 = R 0 := (by rw [eRn117]; exact hsk113)
              have hx120 : FX R Rn117 := (by rw [eRn117]; exact hx114)
              have hmn121 : MN R Rn117 := (by rw [eRn117]; exact hmn115)
              refine lv_iload hx hb dX6_reads_156 (lv_at hl 0 rfl) ?_
              exact W.zret (v := 0) hx hb hr rfl (fun t ht hWw => ⟨⟨0, Rn117, rfl, ⟨hR.symm.trans eR, ht118, hsk119, hx120, hmn121, (Or.inl rfl), (Or.inl rfl)⟩, by rw [ht]; exact hP, hD⟩, hS.F ht⟩) hS.2.2 dX6_reads_158
            · exact absurd c109 (by decide)
          · rw [if_neg c108] at hR
            refine lv_iload_n hx hb dX6_reads_98 rfl (lv_at hl 3 rfl) ?_
            refine lv_bipush (v := 48) hx hb dX6_reads_99 (by decide) ?_
            refine lv_icmp_ne (tgt := 115) hx hb dX6_reads_101 (by decide) (fun c122 => ?_) (fun c122 => ?_)
            · rw [if_neg c122] at hR
              refine lv_iload hx hb dX6_reads_115 (lv_at hl 5 rfl) ?_
              refine lv_iload_n hx hb dX6_reads_117 rfl (lv_at hl 1 rfl) ?_
              refine lv_iload_n hx hb dX6_reads_118 rfl (lv_at hl 2 rfl) ?_
              have hFc : ∀ q : Nat, va_A [] H105.size q → (va_A (cMd a cI R) s.heap.size) q := roF hS hA
              refine va_calli (va_runS (As := [.int x5_14, .int p1, .int p2]) (rest := []) ⟨hx, hb, hml, hown, hts⟩ (c_X6_in l dC dI cI cC cS H105.size x5_14 p1 p2) (va_cwS 3 hts gX6_reads_X6_in rfl rfl rfl (by decide +kernel) ⟨Nat.le_of_ble_eq_true rfl, Nat.le_of_ble_eq_true rfl⟩) (pS hK (va_P_nil) (va_D_nil) hN) rfl rfl hl.1 rfl (lv_room (Nat.le_of_ble_eq_true rfl)) dX6_reads_119 ⟨Nat.le_of_ble_eq_true rfl, Nat.le_of_ble_eq_true rfl⟩) hS (fun q _ h => hFc q h) hFc (fun r_123 u_123 t_123 H124 locs ht hvm hw hB hz1 hk1 hS => ?_)
              obtain ⟨hw, hre125⟩ := hw
              subst hw
              have hP := ro_keep hP hk1
              refine lv_if_eq (tgt := 129) hx hb dX6_reads_122 (by decide) (fun c126 => ?_) (fun c126 => ?_)
              · rw [if_pos c126] at hR
                refine lv_iconst (v := 0) hx hb dX6_reads_129 (by decide) ?_
                refine lv_istore (lv' := [(6, .int 0), (0, .ref (a 0)), (1, .int p1), (2, .int p2), (3, .int x3_14), (4, .int x4_14), (5, .int x5_14)]) hx hb dX6_reads_130 hl (by decide) rfl (fun ls hl => ?_)
                refine lv_aload_n hx hb dX6_reads_132 rfl (lv_at hl 1 rfl) ?_
                refine lv_iload hx hb dX6_reads_133 (lv_at hl 0 rfl) ?_
                refine lv_if_eq (tgt := 145) hx hb dX6_reads_135 (by decide) (fun c127 => ?_) (fun c127 => ?_)
                · refine lv_iload hx hb dX6_reads_145 (lv_at hl 5 rfl) ?_
                  refine va_put (D := (dC, dI)) (ci := 6) (v := .int x4_14) (ty := .int) (C := RX6) (T := TX6) (N := 15) hx hb hts hin6 tyX6 tyX6_ok nmX6 hown hK hP hD hS 0 rfl rfl 7 (by decide) (hts (.fieldLink RX6 125 "FeedDeskModel" "next" "I") (List.mem_of_getElem? (i := 1) rfl)) (fun _ h9 => h9) rfl (by decide +kernel) rfl rfl (Nat.le_of_ble_eq_true rfl) dX6_reads_147 (fun H128 locs hP hD hS => ?_)
                  have hP : va_P (dC, dI) vwCl (cMd a cI (sU R_14 6 3 x4_14)) H128 := hP
                  have hD : va_D (va_A (cMd a cI R) s.heap.size) (cMd a cI (sU R_14 6 3 x4_14)) := hD
                  obtain ⟨Rn129, eRn129⟩ : ∃ z : SR, z = sU R_14 6 3 x4_14 := ⟨_, rfl⟩
                  rw [sLet_eq, ← eRn129] at hR
                  rw [← eRn129] at hP hD
                  have ht130 : WFT Rn129 := (by rw [eRn129]; exact fkr_first hf_14)
                  have hsk131 : Rn129 0 = R 0 := (by rw [eRn129]; exact hsk_14)
                  have hx132 : FX R Rn129 := (by rw [eRn129]; exact hx_14)
                  have hmn133 : MN R Rn129 := (by rw [eRn129]; exact hmx_14)
                  refine lv_aload_n hx hb dX6_reads_150 rfl (lv_at hl 1 rfl) ?_
                  refine lv_iload hx hb dX6_reads_151 (lv_at hl 6 rfl) ?_
                  refine va_put (D := (dC, dI)) (ci := 6) (v := .int x5_14) (ty := .int) (C := RX6) (T := TX6) (N := 15) hx hb hts hin6 tyX6 tyX6_ok nmX6 hown hK hP hD hS 0 rfl rfl 8 (by decide) (hts (.fieldLink RX6 132 "FeedDeskModel" "number" "I") (List.mem_of_getElem? (i := 5) rfl)) (fun _ h9 => h9) rfl (by decide +kernel) rfl rfl (Nat.le_of_ble_eq_true rfl) dX6_reads_153 (fun H134 locs hP hD hS => ?_)
                  have hP : va_P (dC, dI) vwCl (cMd a cI (sU Rn129 6 4 x5_14)) H134 := hP
                  have hD : va_D (va_A (cMd a cI R) s.heap.size) (cMd a cI (sU Rn129 6 4 x5_14)) := hD
                  obtain ⟨Rn135, eRn135⟩ : ∃ z : SR, z = sU Rn129 6 4 x5_14 := ⟨_, rfl⟩
                  rw [sLet_eq, ← eRn135] at hR
                  rw [← eRn135] at hP hD
                  have ht136 : WFT Rn135 := (by rw [eRn135]; exact ht130)
                  have hsk137 : Rn135 0 = R 0 := (by rw [eRn135]; exact hsk131)
                  have hx138 : FX R Rn135 := (by rw [eRn135]; exact hx132)
                  have hmn139 : MN R Rn135 := (by rw [eRn135]; exact hmn133)
                  refine lv_iload hx hb dX6_reads_156 (lv_at hl 0 rfl) ?_
                  exact W.zret (v := 0) hx hb hr rfl (fun t ht hWw => ⟨⟨0, Rn135, rfl, ⟨hR.symm.trans eR, ht136, hsk137, hx138, hmn139, (Or.inl rfl), (Or.inl rfl)⟩, by rw [ht]; exact hP, hD⟩, hS.F ht⟩) hS.2.2 dX6_reads_158
                · exact absurd c127 (by decide)
              · rw [if_neg c126] at hR
                refine lv_iconst (v := 1) hx hb dX6_reads_125 (by decide) ?_
                refine lv_goto (tgt := 130) hx hb dX6_reads_126 (by decide) ?_
                refine lv_istore (lv' := [(6, .int 1), (0, .ref (a 0)), (1, .int p1), (2, .int p2), (3, .int x3_14), (4, .int x4_14), (5, .int x5_14)]) hx hb dX6_reads_130 hl (by decide) rfl (fun ls hl => ?_)
                refine lv_aload_n hx hb dX6_reads_132 rfl (lv_at hl 1 rfl) ?_
                refine lv_iload hx hb dX6_reads_133 (lv_at hl 0 rfl) ?_
                refine lv_if_eq (tgt := 145) hx hb dX6_reads_135 (by decide) (fun c140 => ?_) (fun c140 => ?_)
                · exact absurd c140 (by decide)
                · refine lv_aload_n hx hb dX6_reads_138 rfl (lv_at hl 1 rfl) ?_
                  refine va_get (D := (dC, dI)) (ci := 6) (v := .int (R_14 6 3)) (C := RX6) (T := TX6) (N := 15) hx hb hts hin6 hown hK hP 0 rfl rfl 7 (by decide) (hts (.fieldLink RX6 125 "FeedDeskModel" "next" "I") (List.mem_of_getElem? (i := 1) rfl)) (fun _ h9 => h9) rfl dX6_reads_139 ?_
                  refine lv_goto (tgt := 147) hx hb dX6_reads_142 (by decide) ?_
                  refine va_put (D := (dC, dI)) (ci := 6) (v := .int (R_14 6 3)) (ty := .int) (C := RX6) (T := TX6) (N := 15) hx hb hts hin6 tyX6 tyX6_ok nmX6 hown hK hP hD hS 0 rfl rfl 7 (by decide) (hts (.fieldLink RX6 125 "FeedDeskModel" "next" "I") (List.mem_of_getElem? (i := 1) rfl)) (fun _ h9 => h9) rfl (by decide +kernel) rfl rfl (Nat.le_of_ble_eq_true rfl) dX6_reads_147 (fun H141 locs hP hD hS => ?_)
                  have hP : va_P (dC, dI) vwCl (cMd a cI (sU R_14 6 3 (R_14 6 3))) H141 := hP
                  have hD : va_D (va_A (cMd a cI R) s.heap.size) (cMd a cI (sU R_14 6 3 (R_14 6 3))) := hD
                  obtain ⟨Rn142, eRn142⟩ : ∃ z : SR, z = sU R_14 6 3 (R_14 6 3) := ⟨_, rfl⟩
                  rw [sLet_eq, ← eRn142] at hR
                  rw [← eRn142] at hP hD
                  have ht143 : WFT Rn142 := (by rw [eRn142]; exact ht_14)
                  have hsk144 : Rn142 0 = R 0 := (by rw [eRn142]; exact hsk_14)
                  have hx145 : FX R Rn142 := (by rw [eRn142]; exact hx_14)
                  have hmn146 : MN R Rn142 := (by rw [eRn142]; exact hmn_14)
                  refine lv_aload_n hx hb dX6_reads_150 rfl (lv_at hl 1 rfl) ?_
                  refine lv_iload hx hb dX6_reads_151 (lv_at hl 6 rfl) ?_
                  refine va_put (D := (dC, dI)) (ci := 6) (v := .int x5_14) (ty := .int) (C := RX6) (T := TX6) (N := 15) hx hb hts hin6 tyX6 tyX6_ok nmX6 hown hK hP hD hS 0 rfl rfl 8 (by decide) (hts (.fieldLink RX6 132 "FeedDeskModel" "number" "I") (List.mem_of_getElem? (i := 5) rfl)) (fun _ h9 => h9) rfl (by decide +kernel) rfl rfl (Nat.le_of_ble_eq_true rfl) dX6_reads_153 (fun H147 locs hP hD hS => ?_)
                  have hP : va_P (dC, dI) vwCl (cMd a cI (sU Rn142 6 4 x5_14)) H147 := hP
                  have hD : va_D (va_A (cMd a cI R) s.heap.size) (cMd a cI (sU Rn142 6 4 x5_14)) := hD
                  obtain ⟨Rn148, eRn148⟩ : ∃ z : SR, z = sU Rn142 6 4 x5_14 := ⟨_, rfl⟩
                  rw [sLet_eq, ← eRn148] at hR
                  rw [← eRn148] at hP hD
                  have ht149 : WFT Rn148 := (by rw [eRn148]; exact ht143)
                  have hsk150 : Rn148 0 = R 0 := (by rw [eRn148]; exact hsk144)
                  have hx151 : FX R Rn148 := (by rw [eRn148]; exact hx145)
                  have hmn152 : MN R Rn148 := (by rw [eRn148]; exact hmn146)
                  refine lv_iload hx hb dX6_reads_156 (lv_at hl 0 rfl) ?_
                  exact W.zret (v := 1) hx hb hr rfl (fun t ht hWw => ⟨⟨1, Rn148, rfl, ⟨hR.symm.trans eR, ht149, hsk150, hx151, hmn152, (Or.inr (by rw [eRn148]; exact in_split c126)), (Or.inr rfl)⟩, by rw [ht]; exact hP, hD⟩, hS.F ht⟩) hS.2.2 dX6_reads_158
            · rw [if_pos c122] at hR
              refine lv_aload_n hx hb dX6_reads_104 rfl (lv_at hl 0 rfl) ?_
              refine va_get (D := (dC, dI)) (ci := 6) (v := .int (R_14 6 3)) (C := RX6) (T := TX6) (N := 15) hx hb hts hin6 hown hK hP 0 rfl rfl 7 (by decide) (hts (.fieldLink RX6 125 "FeedDeskModel" "next" "I") (List.mem_of_getElem? (i := 1) rfl)) (fun _ h9 => h9) rfl dX6_reads_105 ?_
              refine lv_iload hx hb dX6_reads_108 (lv_at hl 4 rfl) ?_
              refine lv_iconst (v := 1) hx hb dX6_reads_110 (by decide) ?_
              refine lv_iadd hx hb dX6_reads_111 ?_
              refine lv_icmp_ne (tgt := 129) hx hb dX6_reads_112 (by decide) (fun c153 => ?_) (fun c153 => ?_)
              · rw [if_neg c153] at hR
                refine lv_iconst (v := 0) hx hb dX6_reads_129 (by decide) ?_
                refine lv_istore (lv' := [(6, .int 0), (0, .ref (a 0)), (1, .int p1), (2, .int p2), (3, .int x3_14), (4, .int x4_14), (5, .int x5_14)]) hx hb dX6_reads_130 hl (by decide) rfl (fun ls hl => ?_)
                refine lv_aload_n hx hb dX6_reads_132 rfl (lv_at hl 1 rfl) ?_
                refine lv_iload hx hb dX6_reads_133 (lv_at hl 0 rfl) ?_
                refine lv_if_eq (tgt := 145) hx hb dX6_reads_135 (by decide) (fun c154 => ?_) (fun c154 => ?_)
                · refine lv_iload hx hb dX6_reads_145 (lv_at hl 5 rfl) ?_
                  refine va_put (D := (dC, dI)) (ci := 6) (v := .int x4_14) (ty := .int) (C := RX6) (T := TX6) (N := 15) hx hb hts hin6 tyX6 tyX6_ok nmX6 hown hK hP hD hS 0 rfl rfl 7 (by decide) (hts (.fieldLink RX6 125 "FeedDeskModel" "next" "I") (List.mem_of_getElem? (i := 1) rfl)) (fun _ h9 => h9) rfl (by decide +kernel) rfl rfl (Nat.le_of_ble_eq_true rfl) dX6_reads_147 (fun H155 locs hP hD hS => ?_)
                  have hP : va_P (dC, dI) vwCl (cMd a cI (sU R_14 6 3 x4_14)) H155 := hP
                  have hD : va_D (va_A (cMd a cI R) s.heap.size) (cMd a cI (sU R_14 6 3 x4_14)) := hD
                  obtain ⟨Rn156, eRn156⟩ : ∃ z : SR, z = sU R_14 6 3 x4_14 := ⟨_, rfl⟩
                  rw [sLet_eq, ← eRn156] at hR
                  rw [← eRn156] at hP hD
                  have ht157 : WFT Rn156 := (by rw [eRn156]; exact fkr_first hf_14)
                  have hsk158 : Rn156 0 = R 0 := (by rw [eRn156]; exact hsk_14)
                  have hx159 : FX R Rn156 := (by rw [eRn156]; exact hx_14)
                  have hmn160 : MN R Rn156 := (by rw [eRn156]; exact hmx_14)
                  refine lv_aload_n hx hb dX6_reads_150 rfl (lv_at hl 1 rfl) ?_
                  refine lv_iload hx hb dX6_reads_151 (lv_at hl 6 rfl) ?_
                  refine va_put (D := (dC, dI)) (ci := 6) (v := .int x5_14) (ty := .int) (C := RX6) (T := TX6) (N := 15) hx hb hts hin6 tyX6 tyX6_ok nmX6 hown hK hP hD hS 0 rfl rfl 8 (by decide) (hts (.fieldLink RX6 132 "FeedDeskModel" "number" "I") (List.mem_of_getElem? (i := 5) rfl)) (fun _ h9 => h9) rfl (by decide +kernel) rfl rfl (Nat.le_of_ble_eq_true rfl) dX6_reads_153 (fun H161 locs hP hD hS => ?_)
                  have hP : va_P (dC, dI) vwCl (cMd a cI (sU Rn156 6 4 x5_14)) H161 := hP
                  have hD : va_D (va_A (cMd a cI R) s.heap.size) (cMd a cI (sU Rn156 6 4 x5_14)) := hD
                  obtain ⟨Rn162, eRn162⟩ : ∃ z : SR, z = sU Rn156 6 4 x5_14 := ⟨_, rfl⟩
                  rw [sLet_eq, ← eRn162] at hR
                  rw [← eRn162] at hP hD
                  have ht163 : WFT Rn162 := (by rw [eRn162]; exact ht157)
                  have hsk164 : Rn162 0 = R 0 := (by rw [eRn162]; exact hsk158)
                  have hx165 : FX R Rn162 := (by rw [eRn162]; exact hx159)
                  have hmn166 : MN R Rn162 := (by rw [eRn162]; exact hmn160)
                  refine lv_iload hx hb dX6_reads_156 (lv_at hl 0 rfl) ?_
                  exact W.zret (v := 0) hx hb hr rfl (fun t ht hWw => ⟨⟨0, Rn162, rfl, ⟨hR.symm.trans eR, ht163, hsk164, hx165, hmn166, (Or.inl rfl), (Or.inl rfl)⟩, by rw [ht]; exact hP, hD⟩, hS.F ht⟩) hS.2.2 dX6_reads_158
                · exact absurd c154 (by decide)
              · rw [if_pos c153] at hR
                refine lv_iload hx hb dX6_reads_115 (lv_at hl 5 rfl) ?_
                refine lv_iload_n hx hb dX6_reads_117 rfl (lv_at hl 1 rfl) ?_
                refine lv_iload_n hx hb dX6_reads_118 rfl (lv_at hl 2 rfl) ?_
                have hFc : ∀ q : Nat, va_A [] H105.size q → (va_A (cMd a cI R) s.heap.size) q := roF hS hA
                refine va_calli (va_runS (As := [.int x5_14, .int p1, .int p2]) (rest := []) ⟨hx, hb, hml, hown, hts⟩ (c_X6_in l dC dI cI cC cS H105.size x5_14 p1 p2) (va_cwS 3 hts gX6_reads_X6_in rfl rfl rfl (by decide +kernel) ⟨Nat.le_of_ble_eq_true rfl, Nat.le_of_ble_eq_true rfl⟩) (pS hK (va_P_nil) (va_D_nil) hN) rfl rfl hl.1 rfl (lv_room (Nat.le_of_ble_eq_true rfl)) dX6_reads_119 ⟨Nat.le_of_ble_eq_true rfl, Nat.le_of_ble_eq_true rfl⟩) hS (fun q _ h => hFc q h) hFc (fun r_167 u_167 t_167 H168 locs ht hvm hw hB hz1 hk1 hS => ?_)
                obtain ⟨hw, hre169⟩ := hw
                subst hw
                have hP := ro_keep hP hk1
                refine lv_if_eq (tgt := 129) hx hb dX6_reads_122 (by decide) (fun c170 => ?_) (fun c170 => ?_)
                · rw [if_pos c170] at hR
                  refine lv_iconst (v := 0) hx hb dX6_reads_129 (by decide) ?_
                  refine lv_istore (lv' := [(6, .int 0), (0, .ref (a 0)), (1, .int p1), (2, .int p2), (3, .int x3_14), (4, .int x4_14), (5, .int x5_14)]) hx hb dX6_reads_130 hl (by decide) rfl (fun ls hl => ?_)
                  refine lv_aload_n hx hb dX6_reads_132 rfl (lv_at hl 1 rfl) ?_
                  refine lv_iload hx hb dX6_reads_133 (lv_at hl 0 rfl) ?_
                  refine lv_if_eq (tgt := 145) hx hb dX6_reads_135 (by decide) (fun c171 => ?_) (fun c171 => ?_)
                  · refine lv_iload hx hb dX6_reads_145 (lv_at hl 5 rfl) ?_
                    refine va_put (D := (dC, dI)) (ci := 6) (v := .int x4_14) (ty := .int) (C := RX6) (T := TX6) (N := 15) hx hb hts hin6 tyX6 tyX6_ok nmX6 hown hK hP hD hS 0 rfl rfl 7 (by decide) (hts (.fieldLink RX6 125 "FeedDeskModel" "next" "I") (List.mem_of_getElem? (i := 1) rfl)) (fun _ h9 => h9) rfl (by decide +kernel) rfl rfl (Nat.le_of_ble_eq_true rfl) dX6_reads_147 (fun H172 locs hP hD hS => ?_)
                    have hP : va_P (dC, dI) vwCl (cMd a cI (sU R_14 6 3 x4_14)) H172 := hP
                    have hD : va_D (va_A (cMd a cI R) s.heap.size) (cMd a cI (sU R_14 6 3 x4_14)) := hD
                    obtain ⟨Rn173, eRn173⟩ : ∃ z : SR, z = sU R_14 6 3 x4_14 := ⟨_, rfl⟩
                    rw [sLet_eq, ← eRn173] at hR
                    rw [← eRn173] at hP hD
                    have ht174 : WFT Rn173 := (by rw [eRn173]; exact fkr_first hf_14)
                    have hsk175 : Rn173 0 = R 0 := (by rw [eRn173]; exact hsk_14)
                    have hx176 : FX R Rn173 := (by rw [eRn173]; exact hx_14)
                    have hmn177 : MN R Rn173 := (by rw [eRn173]; exact hmx_14)
                    refine lv_aload_n hx hb dX6_reads_150 rfl (lv_at hl 1 rfl) ?_
                    refine lv_iload hx hb dX6_reads_151 (lv_at hl 6 rfl) ?_
                    refine va_put (D := (dC, dI)) (ci := 6) (v := .int x5_14) (ty := .int) (C := RX6) (T := TX6) (N := 15) hx hb hts hin6 tyX6 tyX6_ok nmX6 hown hK hP hD hS 0 rfl rfl 8 (by decide) (hts (.fieldLink RX6 132 "FeedDeskModel" "number" "I") (List.mem_of_getElem? (i := 5) rfl)) (fun _ h9 => h9) rfl (by decide +kernel) rfl rfl (Nat.le_of_ble_eq_true rfl) dX6_reads_153 (fun H178 locs hP hD hS => ?_)
                    have hP : va_P (dC, dI) vwCl (cMd a cI (sU Rn173 6 4 x5_14)) H178 := hP
                    have hD : va_D (va_A (cMd a cI R) s.heap.size) (cMd a cI (sU Rn173 6 4 x5_14)) := hD
                    obtain ⟨Rn179, eRn179⟩ : ∃ z : SR, z = sU Rn173 6 4 x5_14 := ⟨_, rfl⟩
                    rw [sLet_eq, ← eRn179] at hR
                    rw [← eRn179] at hP hD
                    have ht180 : WFT Rn179 := (by rw [eRn179]; exact ht174)
                    have hsk181 : Rn179 0 = R 0 := (by rw [eRn179]; exact hsk175)
                    have hx182 : FX R Rn179 := (by rw [eRn179]; exact hx176)
                    have hmn183 : MN R Rn179 := (by rw [eRn179]; exact hmn177)
                    refine lv_iload hx hb dX6_reads_156 (lv_at hl 0 rfl) ?_
                    exact W.zret (v := 0) hx hb hr rfl (fun t ht hWw => ⟨⟨0, Rn179, rfl, ⟨hR.symm.trans eR, ht180, hsk181, hx182, hmn183, (Or.inl rfl), (Or.inl rfl)⟩, by rw [ht]; exact hP, hD⟩, hS.F ht⟩) hS.2.2 dX6_reads_158
                  · exact absurd c171 (by decide)
                · rw [if_neg c170] at hR
                  refine lv_iconst (v := 1) hx hb dX6_reads_125 (by decide) ?_
                  refine lv_goto (tgt := 130) hx hb dX6_reads_126 (by decide) ?_
                  refine lv_istore (lv' := [(6, .int 1), (0, .ref (a 0)), (1, .int p1), (2, .int p2), (3, .int x3_14), (4, .int x4_14), (5, .int x5_14)]) hx hb dX6_reads_130 hl (by decide) rfl (fun ls hl => ?_)
                  refine lv_aload_n hx hb dX6_reads_132 rfl (lv_at hl 1 rfl) ?_
                  refine lv_iload hx hb dX6_reads_133 (lv_at hl 0 rfl) ?_
                  refine lv_if_eq (tgt := 145) hx hb dX6_reads_135 (by decide) (fun c184 => ?_) (fun c184 => ?_)
                  · exact absurd c184 (by decide)
                  · refine lv_aload_n hx hb dX6_reads_138 rfl (lv_at hl 1 rfl) ?_
                    refine va_get (D := (dC, dI)) (ci := 6) (v := .int (R_14 6 3)) (C := RX6) (T := TX6) (N := 15) hx hb hts hin6 hown hK hP 0 rfl rfl 7 (by decide) (hts (.fieldLink RX6 125 "FeedDeskModel" "next" "I") (List.mem_of_getElem? (i := 1) rfl)) (fun _ h9 => h9) rfl dX6_reads_139 ?_
                    refine lv_goto (tgt := 147) hx hb dX6_reads_142 (by decide) ?_
                    refine va_put (D := (dC, dI)) (ci := 6) (v := .int (R_14 6 3)) (ty := .int) (C := RX6) (T := TX6) (N := 15) hx hb hts hin6 tyX6 tyX6_ok nmX6 hown hK hP hD hS 0 rfl rfl 7 (by decide) (hts (.fieldLink RX6 125 "FeedDeskModel" "next" "I") (List.mem_of_getElem? (i := 1) rfl)) (fun _ h9 => h9) rfl (by decide +kernel) rfl rfl (Nat.le_of_ble_eq_true rfl) dX6_reads_147 (fun H185 locs hP hD hS => ?_)
                    have hP : va_P (dC, dI) vwCl (cMd a cI (sU R_14 6 3 (R_14 6 3))) H185 := hP
                    have hD : va_D (va_A (cMd a cI R) s.heap.size) (cMd a cI (sU R_14 6 3 (R_14 6 3))) := hD
                    obtain ⟨Rn186, eRn186⟩ : ∃ z : SR, z = sU R_14 6 3 (R_14 6 3) := ⟨_, rfl⟩
                    rw [sLet_eq, ← eRn186] at hR
                    rw [← eRn186] at hP hD
                    have ht187 : WFT Rn186 := (by rw [eRn186]; exact ht_14)
                    have hsk188 : Rn186 0 = R 0 := (by rw [eRn186]; exact hsk_14)
                    have hx189 : FX R Rn186 := (by rw [eRn186]; exact hx_14)
                    have hmn190 : MN R Rn186 := (by rw [eRn186]; exact hmn_14)
                    refine lv_aload_n hx hb dX6_reads_150 rfl (lv_at hl 1 rfl) ?_
                    refine lv_iload hx hb dX6_reads_151 (lv_at hl 6 rfl) ?_
                    refine va_put (D := (dC, dI)) (ci := 6) (v := .int x5_14) (ty := .int) (C := RX6) (T := TX6) (N := 15) hx hb hts hin6 tyX6 tyX6_ok nmX6 hown hK hP hD hS 0 rfl rfl 8 (by decide) (hts (.fieldLink RX6 132 "FeedDeskModel" "number" "I") (List.mem_of_getElem? (i := 5) rfl)) (fun _ h9 => h9) rfl (by decide +kernel) rfl rfl (Nat.le_of_ble_eq_true rfl) dX6_reads_153 (fun H191 locs hP hD hS => ?_)
                    have hP : va_P (dC, dI) vwCl (cMd a cI (sU Rn186 6 4 x5_14)) H191 := hP
                    have hD : va_D (va_A (cMd a cI R) s.heap.size) (cMd a cI (sU Rn186 6 4 x5_14)) := hD
                    obtain ⟨Rn192, eRn192⟩ : ∃ z : SR, z = sU Rn186 6 4 x5_14 := ⟨_, rfl⟩
                    rw [sLet_eq, ← eRn192] at hR
                    rw [← eRn192] at hP hD
                    have ht193 : WFT Rn192 := (by rw [eRn192]; exact ht187)
                    have hsk194 : Rn192 0 = R 0 := (by rw [eRn192]; exact hsk188)
                    have hx195 : FX R Rn192 := (by rw [eRn192]; exact hx189)
                    have hmn196 : MN R Rn192 := (by rw [eRn192]; exact hmn190)
                    refine lv_iload hx hb dX6_reads_156 (lv_at hl 0 rfl) ?_
                    exact W.zret (v := 1) hx hb hr rfl (fun t ht hWw => ⟨⟨1, Rn192, rfl, ⟨hR.symm.trans eR, ht193, hsk194, hx195, hmn196, (Or.inr (by rw [eRn192]; exact in_split c170)), (Or.inr rfl)⟩, by rw [ht]; exact hP, hD⟩, hS.F ht⟩) hS.2.2 dX6_reads_158
        · rw [if_neg c107] at hR
          refine lv_iload hx hb dX6_reads_44 (lv_at hl 5 rfl) ?_
          refine lv_ldc (v := 100000) hx hb hown (hts (.constant RX6 131 (100000)) (List.mem_of_getElem? (i := 4) rfl)) dX6_reads_46 ?_
          refine lv_icmp_ge (tgt := 72) hx hb dX6_reads_48 (by decide) (fun c197 => ?_) (fun c197 => ?_)
          · rw [if_pos c197] at hR
            refine lv_iload hx hb dX6_reads_72 (lv_at hl 5 rfl) ?_
            refine lv_istore (lv' := [(5, .int x5_14), (0, .ref (a 0)), (1, .int p1), (2, .int p2), (3, .int x3_14), (4, .int x4_14)]) hx hb dX6_reads_74 hl (by decide) rfl (fun ls hl => ?_)
            refine lv_aload_n hx hb dX6_reads_76 rfl (lv_at hl 1 rfl) ?_
            refine lv_dup hx hb dX6_reads_77 rfl ?_
            refine va_get (D := (dC, dI)) (ci := 6) (v := .int (R_14 6 3)) (C := RX6) (T := TX6) (N := 15) hx hb hts hin6 hown hK hP 0 rfl rfl 7 (by decide) (hts (.fieldLink RX6 125 "FeedDeskModel" "next" "I") (List.mem_of_getElem? (i := 1) rfl)) (fun _ h9 => h9) rfl dX6_reads_78 ?_
            refine lv_iconst (v := 1) hx hb dX6_reads_81 (by decide) ?_
            refine lv_iadd hx hb dX6_reads_82 ?_
            refine va_put (D := (dC, dI)) (ci := 6) (v := .int ((R_14 6 3) + 1)) (ty := .int) (C := RX6) (T := TX6) (N := 15) hx hb hts hin6 tyX6 tyX6_ok nmX6 hown hK hP hD hS 0 rfl rfl 7 (by decide) (hts (.fieldLink RX6 125 "FeedDeskModel" "next" "I") (List.mem_of_getElem? (i := 1) rfl)) (fun _ h9 => h9) rfl (by decide +kernel) rfl rfl (Nat.le_of_ble_eq_true rfl) dX6_reads_83 (fun H198 locs hP hD hS => ?_)
            have hP : va_P (dC, dI) vwCl (cMd a cI (sU R_14 6 3 ((R_14 6 3) + 1))) H198 := hP
            have hD : va_D (va_A (cMd a cI R) s.heap.size) (cMd a cI (sU R_14 6 3 ((R_14 6 3) + 1))) := hD
            obtain ⟨Rn199, eRn199⟩ : ∃ z : SR, z = sU R_14 6 3 ((R_14 6 3) + 1) := ⟨_, rfl⟩
            rw [sLet_eq, ← eRn199] at hR
            rw [← eRn199] at hP hD
            have ht200 : WFT Rn199 := (by rw [eRn199]; exact wft_inc ht_14 c14)
            have hsk201 : Rn199 0 = R 0 := (by rw [eRn199]; exact hsk_14)
            have hx202 : FX R Rn199 := (by rw [eRn199]; exact hx_14)
            have hmn203 : MN R Rn199 := (by rw [eRn199]; exact mn_inc hmn_14 ht_14 c14)
            refine lv_goto (tgt := 14) hx hb dX6_reads_86 (by decide) ?_
            exact ih_14 x3_14 x4_14 x5_14 Rn199 (by rw [eRn199]; exact ms_back (wft_ms ht_14 c14) hm_14) ht200 hsk201 hx202 hmn203 (by rw [eRn199]; exact fkr_inc hf_14 c14) (by rw [eRn199]; exact hmx_14) hR _ _ _ hP hD hS (lv_sub hl [1, 2, 3, 4, 5, 0] rfl)
          · rw [if_neg c197] at hR
            refine lv_bipush (v := 10) hx hb dX6_reads_51 (by decide) ?_
            refine lv_iload hx hb dX6_reads_53 (lv_at hl 5 rfl) ?_
            refine lv_imul hx hb dX6_reads_55 ?_
            refine lv_aload_n hx hb dX6_reads_56 rfl (lv_at hl 0 rfl) ?_
            refine va_get (D := (dC, dI)) (ci := 6) (v := .ref (a 4)) (C := RX6) (T := TX6) (N := 15) hx hb hts hin6 hown hK hP 0 rfl rfl 5 (by decide) (hts (.fieldLink RX6 19 "FeedDeskModel" "text" "[I") (List.mem_of_getElem? (i := 3) rfl)) (fun _ h9 => h9) rfl dX6_reads_57 ?_
            refine lv_aload_n hx hb dX6_reads_60 rfl (lv_at hl 0 rfl) ?_
            refine va_get (D := (dC, dI)) (ci := 6) (v := .int (R_14 6 3)) (C := RX6) (T := TX6) (N := 15) hx hb hts hin6 hown hK hP 0 rfl rfl 7 (by decide) (hts (.fieldLink RX6 125 "FeedDeskModel" "next" "I") (List.mem_of_getElem? (i := 1) rfl)) (fun _ h9 => h9) rfl dX6_reads_61 ?_
            refine va_iald (f := R_14 3) hx hb hK hP 4 0 rfl rfl (wft_in ht_14 c14) dX6_reads_64 ?_
            refine lv_iadd hx hb dX6_reads_65 ?_
            refine lv_bipush (v := 48) hx hb dX6_reads_66 (by decide) ?_
            refine lv_isub hx hb dX6_reads_68 ?_
            refine lv_goto (tgt := 74) hx hb dX6_reads_69 (by decide) ?_
            refine lv_istore (lv' := [(5, .int (((10 * x5_14) + (R_14 3 (R_14 6 3).toNatClampNeg)) - 48)), (0, .ref (a 0)), (1, .int p1), (2, .int p2), (3, .int x3_14), (4, .int x4_14)]) hx hb dX6_reads_74 hl (by decide) rfl (fun ls hl => ?_)
            refine lv_aload_n hx hb dX6_reads_76 rfl (lv_at hl 1 rfl) ?_
            refine lv_dup hx hb dX6_reads_77 rfl ?_
            refine va_get (D := (dC, dI)) (ci := 6) (v := .int (R_14 6 3)) (C := RX6) (T := TX6) (N := 15) hx hb hts hin6 hown hK hP 0 rfl rfl 7 (by decide) (hts (.fieldLink RX6 125 "FeedDeskModel" "next" "I") (List.mem_of_getElem? (i := 1) rfl)) (fun _ h9 => h9) rfl dX6_reads_78 ?_
            refine lv_iconst (v := 1) hx hb dX6_reads_81 (by decide) ?_
            refine lv_iadd hx hb dX6_reads_82 ?_
            refine va_put (D := (dC, dI)) (ci := 6) (v := .int ((R_14 6 3) + 1)) (ty := .int) (C := RX6) (T := TX6) (N := 15) hx hb hts hin6 tyX6 tyX6_ok nmX6 hown hK hP hD hS 0 rfl rfl 7 (by decide) (hts (.fieldLink RX6 125 "FeedDeskModel" "next" "I") (List.mem_of_getElem? (i := 1) rfl)) (fun _ h9 => h9) rfl (by decide +kernel) rfl rfl (Nat.le_of_ble_eq_true rfl) dX6_reads_83 (fun H204 locs hP hD hS => ?_)
            have hP : va_P (dC, dI) vwCl (cMd a cI (sU R_14 6 3 ((R_14 6 3) + 1))) H204 := hP
            have hD : va_D (va_A (cMd a cI R) s.heap.size) (cMd a cI (sU R_14 6 3 ((R_14 6 3) + 1))) := hD
            obtain ⟨Rn205, eRn205⟩ : ∃ z : SR, z = sU R_14 6 3 ((R_14 6 3) + 1) := ⟨_, rfl⟩
            rw [sLet_eq, ← eRn205] at hR
            rw [← eRn205] at hP hD
            have ht206 : WFT Rn205 := (by rw [eRn205]; exact wft_inc ht_14 c14)
            have hsk207 : Rn205 0 = R 0 := (by rw [eRn205]; exact hsk_14)
            have hx208 : FX R Rn205 := (by rw [eRn205]; exact hx_14)
            have hmn209 : MN R Rn205 := (by rw [eRn205]; exact mn_inc hmn_14 ht_14 c14)
            refine lv_goto (tgt := 14) hx hb dX6_reads_86 (by decide) ?_
            exact ih_14 x3_14 x4_14 (((10 * x5_14) + (R_14 3 (R_14 6 3).toNatClampNeg)) - 48) Rn205 (by rw [eRn205]; exact ms_back (wft_ms ht_14 c14) hm_14) ht206 hsk207 hx208 hmn209 (by rw [eRn205]; exact fkr_inc hf_14 c14) (by rw [eRn205]; exact hmx_14) hR _ _ _ hP hD hS (lv_sub hl [1, 2, 3, 4, 5, 0] rfl)
  exact hL_14 142 ((f_X6_here R).1) (Rn8 6 3) 0 Rn8 (ms_lt ht9) ht9 hsk10 hx11 hmn12 (fkr_0 ht9) (mx_0 hmn12) hR _ _ _ hP hD hS (lv_sub hl [3, 4, 5, 2, 1, 0] rfl)
abbrev rm_X6_readsGroups : Room := { frames := 1, cells := 0, slots := 0, locals := 22 }
def f_X6_readsGroups_p18   : Nat → Int32 → SR → (Int32 × SR)
  | 0, _, R_18 => (0, R_18)
  | n_18 + 1, x1_18, R_18 => (if (R_18 6 2) ≤ (R_18 6 3) then sLet (sU R_18 6 4 x1_18) (fun Rn20 : SR => (1, Rn20)) else (if (f_X6_in (R_18 3 (R_18 6 3).toNatClampNeg) 48 57) = 0 then sLet (sU R_18 6 4 x1_18) (fun Rn30 : SR => (1, Rn30)) else (if 3 < ((R_18 3 (R_18 6 3).toNatClampNeg) - 48) then (0, R_18) else (if (f_X6_has x1_18 ((R_18 3 (R_18 6 3).toNatClampNeg) - 48)) = 0 then sLet (sU R_18 6 3 ((R_18 6 3) + 1)) (fun Rn41 : SR => (f_X6_readsGroups_p18 n_18) (x1_18 ||| (1 <<< (((R_18 3 (R_18 6 3).toNatClampNeg) - 48) &&& 31))) Rn41) else (0, R_18)))))
def f_X6_readsGroups (R : SR)  : Int32 × SR := sLet ((f_X6_here R).2) (fun Rn8 : SR => (if (f_X6_in ((f_X6_here R).1) 48 51) = 0 then (0, Rn8) else f_X6_readsGroups_p18 142 0 Rn8))
set_option maxHeartbeats 4000000 in
set_option maxRecDepth 100000 in
theorem c_X6_readsGroups (l : Launch) (dC : Nat → ClassId) (dI : Nat → Nat → Nat) (cI cC cS : ClassId) (a : Nat → Nat) (R : SR) (sz : Nat)  (ht : WFT R) : Met l yX6_readsGroups wsX6_readsGroups rm_X6_readsGroups (PcG (dC, dI) (tyL cI cC cS) (cMd a cI R) sz [.ref (a 0)]) (va_Qi (fun (r : Int32) (u : SR) => (r, u) = f_X6_readsGroups R ∧ (WFT u) ∧ (u 0 = R 0) ∧ (FX R u) ∧ (MN R u) ∧ (r = 0 ∨ r = 1)) (fun u U => va_P (dC, dI) vwCl (cMd a cI u) U.heap ∧ va_D (va_A (cMd a cI R) sz) (cMd a cI u)) (va_A (cMd a cI R) sz)) 0 0 (va_A (cMd a cI R) sz) := by
  refine Met.ofW (cc := cX6_readsGroups) (maxL := 3) (ret := (some .boolean)) (by decide) rfl ?_
  intro p e s m args below meth c s₁ B hml hv
  obtain ⟨rfl, hsz, hP, hK, hD0, hN⟩ := hv
  have hx := B.exec
  have hb := B.bytes
  have hr := B.returns
  have hts := atoms_spec (ws := wsX6_readsGroups) B.pre
  have hown : s.vm.findClass RX6 = some m.cls := findClass_of_methodNamed B.named
  have hlocks := B.notSynchronized
  subst hsz
  have hD := hD0.self (sz := s.heap.size)
  have hA : ∀ q : Nat, s.heap.size ≤ q → (va_A (cMd a cI R) s.heap.size) q := fun q h => Or.inr h
  have hS : va_S (va_A (cMd a cI R) s.heap.size) s.heap s.heap [] := va_S.rf
  have hin6 : ∀ w ∈ wsX60, w ∈ wsX6_readsGroups := fun _ h => List.mem_cons_of_mem _ (List.mem_append_right _ h)
  have hsk_0 : R 0 = R 0 := rfl
  have hx_0 : FX R R := fx_rf
  have hmn_0 : MN R R := mn_rf
  have hl := lv_entry [.ref (a 0)] (n := 3) (Nat.le_of_ble_eq_true rfl)
  rw [lg_entry_eq]
  generalize (lg_sl [.ref (a 0)] ++ List.replicate (3 - (lg_sl [.ref (a 0)]).length) Slot.unset).toArray = ls at hl ⊢
  have hl : lv_has ls 3 [(0, .ref (a 0))] := hl
  obtain ⟨R0, eR⟩ : ∃ z, z = f_X6_readsGroups R := ⟨_, rfl⟩
  have hR := eR
  rw [f_X6_readsGroups] at hR
  refine lv_iconst (v := 0) hx hb dX6_readsGroups_0 (by decide) ?_
  refine lv_istore_n (lv' := [(1, .int 0), (0, .ref (a 0))]) hx hb dX6_readsGroups_1 rfl hl (by decide) rfl (fun ls hl => ?_)
  refine lv_aload_n hx hb dX6_readsGroups_2 rfl (lv_at hl 1 rfl) ?_
  have hPc : va_P (dC, dI) vwCl (cMd a cI R) s.heap := hP.sub [0, 1, 2, 3, 4, 5, 6] rfl
  have hDc : va_D (va_A (cMd a cI R) s.heap.size) (cMd a cI R) := hD.sub [0, 1, 2, 3, 4, 5, 6] (by decide) rfl
  have hFc : ∀ q : Nat, va_A (cMd a cI R) s.heap.size q → (va_A (cMd a cI R) s.heap.size) q := va_free hD hS hA [0, 1, 2, 3, 4, 5, 6] rfl
  refine va_calli (va_runV (As := []) (rest := []) ⟨hx, hb, hml, hown, hts⟩ (c_X6_here l dC dI cI cC cS a R s.heap.size ht) (cwV 0 hts gX6_readsGroups_X6_here rfl rfl rfl (by decide +kernel) ⟨Nat.le_of_ble_eq_true rfl, Nat.le_of_ble_eq_true rfl⟩) (pV (q0 := 0) hK hPc hDc hN rfl rfl) rfl rfl hl.1 rfl (lv_room (Nat.le_of_ble_eq_true rfl)) dX6_readsGroups_3 ⟨Nat.le_of_ble_eq_true rfl, Nat.le_of_ble_eq_true rfl⟩) hS (fun q _ h => hFc q h) hFc (fun r_1 u_1 t_1 H2 locs ht hvm hw hB hz1 hk1 hS => ?_)
  obtain ⟨hw, hens3, hens4, hens5, hens6, hens7⟩ := hw
  obtain ⟨hP1, hD1⟩ := hB
  rw [ht] at hP1
  have hw1 : r_1 = (f_X6_here R).1 := congrArg Prod.fst hw
  have hw2 : u_1 = (f_X6_here R).2 := congrArg Prod.snd hw
  clear hw
  subst hw1
  subst hw2
  obtain ⟨hP, hD⟩ := va_join (wc := cMd a cI R) (wr := []) (w1 := cMd a cI ((f_X6_here R).2)) hP hD [0, 1, 2, 3, 4, 5, 6] [] rfl rfl (by decide) (by decide) hk1 hFc hP1 hD1
  have hP : va_P (dC, dI) vwCl (cMd a cI ((f_X6_here R).2)) H2 := hP.sub [0, 1, 2, 3, 4, 5, 6] rfl
  have hD : va_D (va_A (cMd a cI R) s.heap.size) (cMd a cI ((f_X6_here R).2)) := hD.sub [0, 1, 2, 3, 4, 5, 6] (by decide) rfl
  obtain ⟨Rn8, eRn8⟩ : ∃ z : SR, z = (f_X6_here R).2 := ⟨_, rfl⟩
  rw [sLet_eq, ← eRn8] at hR
  rw [← eRn8] at hP hD
  have ht9 : WFT Rn8 := by rw [eRn8]; exact hens3
  have hsk10 : Rn8 0 = R 0 := by rw [eRn8]; exact hens4
  have hx11 : FX R Rn8 := by rw [eRn8]; exact hens5
  have hmn12 : MN R Rn8 := by rw [eRn8]; exact hens6
  have hq13 : ((f_X6_here R).1) = -1 ∨ ¬ Rn8 6 2 ≤ Rn8 6 3 := by rw [eRn8]; exact hens7
  refine lv_bipush (v := 48) hx hb dX6_readsGroups_6 (by decide) ?_
  refine lv_bipush (v := 51) hx hb dX6_readsGroups_8 (by decide) ?_
  have hFc : ∀ q : Nat, va_A [] H2.size q → (va_A (cMd a cI R) s.heap.size) q := roF hS hA
  refine va_calli (va_runS (As := [.int ((f_X6_here R).1), .int 48, .int 51]) (rest := []) ⟨hx, hb, hml, hown, hts⟩ (c_X6_in l dC dI cI cC cS H2.size ((f_X6_here R).1) 48 51) (va_cwS 3 hts gX6_readsGroups_X6_in rfl rfl rfl (by decide +kernel) ⟨Nat.le_of_ble_eq_true rfl, Nat.le_of_ble_eq_true rfl⟩) (pS hK (va_P_nil) (va_D_nil) hN) rfl rfl hl.1 rfl (lv_room (Nat.le_of_ble_eq_true rfl)) dX6_readsGroups_10 ⟨Nat.le_of_ble_eq_true rfl, Nat.le_of_ble_eq_true rfl⟩) hS (fun q _ h => hFc q h) hFc (fun r_14 u_14 t_14 H15 locs ht hvm hw hB hz1 hk1 hS => ?_)
  obtain ⟨hw, hre16⟩ := hw
  subst hw
  have hP := ro_keep hP hk1
  refine lv_if_ne (tgt := 18) hx hb dX6_readsGroups_13 (by decide) (fun c17 => ?_) (fun c17 => ?_)
  · rw [if_neg c17] at hR
    have hL_18 : ∀ n_18 : Nat,  ∀ (x1_18 : Int32) (R_18 : SR), ms (vw R_18) < n_18 → WFT R_18 → R_18 0 = R 0 → FX R R_18 → MN R R_18 → R0 = f_X6_readsGroups_p18 n_18 x1_18 R_18 → ∀ (H : Heap) (locs : List Loc) (ls : Array Slot), va_P (dC, dI) vwCl (cMd a cI R_18) H → va_D (va_A (cMd a cI R) s.heap.size) (cMd a cI R_18) → va_S (va_A (cMd a cI R) s.heap.size) s.heap H locs → lv_has ls 3 [(0, .ref (a 0)), (1, .int x1_18)] → W p l e (headSpec wsX6_readsGroups rm_X6_readsGroups).room s m ([.ref (a 0)] : List Value).toArray below meth c H locs 0 0 (MQ below (va_Qi (fun (r : Int32) (u : SR) => (r, u) = f_X6_readsGroups R ∧ (WFT u) ∧ (u 0 = R 0) ∧ (FX R u) ∧ (MN R u) ∧ (r = 0 ∨ r = 1)) (fun u U => va_P (dC, dI) vwCl (cMd a cI u) U.heap ∧ va_D (va_A (cMd a cI R) s.heap.size) (cMd a cI u)) (va_A (cMd a cI R) s.heap.size)) ([.ref (a 0)] : List Value).toArray s 0 0 (va_A (cMd a cI R) s.heap.size)) (F0 m 18 ls []) := by
      intro n_18
      induction n_18 with
      | zero =>
        intro  x1_18 R_18 hm_18 ht_18 hsk_18 hx_18 hmn_18
        exact absurd hm_18 (Nat.not_lt_zero _)
      | succ n_18 ih_18 =>
        intro  x1_18 R_18 hm_18 ht_18 hsk_18 hx_18 hmn_18 hR H locs ls hP hD hS hl
        rw [f_X6_readsGroups_p18] at hR
        refine lv_aload_n hx hb dX6_readsGroups_18 rfl (lv_at hl 0 rfl) ?_
        refine va_get (D := (dC, dI)) (ci := 6) (v := .int (R_18 6 3)) (C := RX6) (T := TX6) (N := 15) hx hb hts hin6 hown hK hP 0 rfl rfl 7 (by decide) (hts (.fieldLink RX6 125 "FeedDeskModel" "next" "I") (List.mem_of_getElem? (i := 1) rfl)) (fun _ h9 => h9) rfl dX6_readsGroups_19 ?_
        refine lv_aload_n hx hb dX6_readsGroups_22 rfl (lv_at hl 0 rfl) ?_
        refine va_get (D := (dC, dI)) (ci := 6) (v := .int (R_18 6 2)) (C := RX6) (T := TX6) (N := 15) hx hb hts hin6 hown hK hP 0 rfl rfl 6 (by decide) (hts (.fieldLink RX6 122 "FeedDeskModel" "length" "I") (List.mem_of_getElem? (i := 2) rfl)) (fun _ h9 => h9) rfl dX6_readsGroups_23 ?_
        refine lv_icmp_ge (tgt := 95) hx hb dX6_readsGroups_26 (by decide) (fun c18 => ?_) (fun c18 => ?_)
        · rw [if_pos c18] at hR
          refine lv_aload_n hx hb dX6_readsGroups_95 rfl (lv_at hl 0 rfl) ?_
          refine lv_iload_n hx hb dX6_readsGroups_96 rfl (lv_at hl 1 rfl) ?_
          refine va_put (D := (dC, dI)) (ci := 6) (v := .int x1_18) (ty := .int) (C := RX6) (T := TX6) (N := 15) hx hb hts hin6 tyX6 tyX6_ok nmX6 hown hK hP hD hS 0 rfl rfl 8 (by decide) (hts (.fieldLink RX6 132 "FeedDeskModel" "number" "I") (List.mem_of_getElem? (i := 4) rfl)) (fun _ h9 => h9) rfl (by decide +kernel) rfl rfl (Nat.le_of_ble_eq_true rfl) dX6_readsGroups_97 (fun H19 locs hP hD hS => ?_)
          have hP : va_P (dC, dI) vwCl (cMd a cI (sU R_18 6 4 x1_18)) H19 := hP
          have hD : va_D (va_A (cMd a cI R) s.heap.size) (cMd a cI (sU R_18 6 4 x1_18)) := hD
          obtain ⟨Rn20, eRn20⟩ : ∃ z : SR, z = sU R_18 6 4 x1_18 := ⟨_, rfl⟩
          rw [sLet_eq, ← eRn20] at hR
          rw [← eRn20] at hP hD
          have ht21 : WFT Rn20 := (by rw [eRn20]; exact ht_18)
          have hsk22 : Rn20 0 = R 0 := (by rw [eRn20]; exact hsk_18)
          have hx23 : FX R Rn20 := (by rw [eRn20]; exact hx_18)
          have hmn24 : MN R Rn20 := (by rw [eRn20]; exact hmn_18)
          refine lv_iconst (v := 1) hx hb dX6_readsGroups_100 (by decide) ?_
          exact W.zret (v := 1) hx hb hr rfl (fun t ht hWw => ⟨⟨1, Rn20, rfl, ⟨hR.symm.trans eR, ht21, hsk22, hx23, hmn24, (Or.inr rfl)⟩, by rw [ht]; exact hP, hD⟩, hS.F ht⟩) hS.2.2 dX6_readsGroups_101
        · rw [if_neg c18] at hR
          refine lv_aload_n hx hb dX6_readsGroups_29 rfl (lv_at hl 0 rfl) ?_
          refine va_get (D := (dC, dI)) (ci := 6) (v := .ref (a 4)) (C := RX6) (T := TX6) (N := 15) hx hb hts hin6 hown hK hP 0 rfl rfl 5 (by decide) (hts (.fieldLink RX6 19 "FeedDeskModel" "text" "[I") (List.mem_of_getElem? (i := 3) rfl)) (fun _ h9 => h9) rfl dX6_readsGroups_30 ?_
          refine lv_aload_n hx hb dX6_readsGroups_33 rfl (lv_at hl 0 rfl) ?_
          refine va_get (D := (dC, dI)) (ci := 6) (v := .int (R_18 6 3)) (C := RX6) (T := TX6) (N := 15) hx hb hts hin6 hown hK hP 0 rfl rfl 7 (by decide) (hts (.fieldLink RX6 125 "FeedDeskModel" "next" "I") (List.mem_of_getElem? (i := 1) rfl)) (fun _ h9 => h9) rfl dX6_readsGroups_34 ?_
          refine va_iald (f := R_18 3) hx hb hK hP 4 0 rfl rfl (wft_in ht_18 c18) dX6_readsGroups_37 ?_
          refine lv_bipush (v := 48) hx hb dX6_readsGroups_38 (by decide) ?_
          refine lv_bipush (v := 57) hx hb dX6_readsGroups_40 (by decide) ?_
          have hFc : ∀ q : Nat, va_A [] H.size q → (va_A (cMd a cI R) s.heap.size) q := roF hS hA
          refine va_calli (va_runS (As := [.int (R_18 3 (R_18 6 3).toNatClampNeg), .int 48, .int 57]) (rest := []) ⟨hx, hb, hml, hown, hts⟩ (c_X6_in l dC dI cI cC cS H.size (R_18 3 (R_18 6 3).toNatClampNeg) 48 57) (va_cwS 3 hts gX6_readsGroups_X6_in rfl rfl rfl (by decide +kernel) ⟨Nat.le_of_ble_eq_true rfl, Nat.le_of_ble_eq_true rfl⟩) (pS hK (va_P_nil) (va_D_nil) hN) rfl rfl hl.1 rfl (lv_room (Nat.le_of_ble_eq_true rfl)) dX6_readsGroups_42 ⟨Nat.le_of_ble_eq_true rfl, Nat.le_of_ble_eq_true rfl⟩) hS (fun q _ h => hFc q h) hFc (fun r_25 u_25 t_25 H26 locs ht hvm hw hB hz1 hk1 hS => ?_)
          obtain ⟨hw, hre27⟩ := hw
          subst hw
          have hP := ro_keep hP hk1
          refine lv_if_eq (tgt := 95) hx hb dX6_readsGroups_45 (by decide) (fun c28 => ?_) (fun c28 => ?_)
          · rw [if_pos c28] at hR
            refine lv_aload_n hx hb dX6_readsGroups_95 rfl (lv_at hl 0 rfl) ?_
            refine lv_iload_n hx hb dX6_readsGroups_96 rfl (lv_at hl 1 rfl) ?_
            refine va_put (D := (dC, dI)) (ci := 6) (v := .int x1_18) (ty := .int) (C := RX6) (T := TX6) (N := 15) hx hb hts hin6 tyX6 tyX6_ok nmX6 hown hK hP hD hS 0 rfl rfl 8 (by decide) (hts (.fieldLink RX6 132 "FeedDeskModel" "number" "I") (List.mem_of_getElem? (i := 4) rfl)) (fun _ h9 => h9) rfl (by decide +kernel) rfl rfl (Nat.le_of_ble_eq_true rfl) dX6_readsGroups_97 (fun H29 locs hP hD hS => ?_)
            have hP : va_P (dC, dI) vwCl (cMd a cI (sU R_18 6 4 x1_18)) H29 := hP
            have hD : va_D (va_A (cMd a cI R) s.heap.size) (cMd a cI (sU R_18 6 4 x1_18)) := hD
            obtain ⟨Rn30, eRn30⟩ : ∃ z : SR, z = sU R_18 6 4 x1_18 := ⟨_, rfl⟩
            rw [sLet_eq, ← eRn30] at hR
            rw [← eRn30] at hP hD
            have ht31 : WFT Rn30 := (by rw [eRn30]; exact ht_18)
            have hsk32 : Rn30 0 = R 0 := (by rw [eRn30]; exact hsk_18)
            have hx33 : FX R Rn30 := (by rw [eRn30]; exact hx_18)
            have hmn34 : MN R Rn30 := (by rw [eRn30]; exact hmn_18)
            refine lv_iconst (v := 1) hx hb dX6_readsGroups_100 (by decide) ?_
            exact W.zret (v := 1) hx hb hr rfl (fun t ht hWw => ⟨⟨1, Rn30, rfl, ⟨hR.symm.trans eR, ht31, hsk32, hx33, hmn34, (Or.inr rfl)⟩, by rw [ht]; exact hP, hD⟩, hS.F ht⟩) hS.2.2 dX6_readsGroups_101
          · rw [if_neg c28] at hR
            refine lv_aload_n hx hb dX6_readsGroups_48 rfl (lv_at hl 0 rfl) ?_
            refine va_get (D := (dC, dI)) (ci := 6) (v := .ref (a 4)) (C := RX6) (T := TX6) (N := 15) hx hb hts hin6 hown hK hP 0 rfl rfl 5 (by decide) (hts (.fieldLink RX6 19 "FeedDeskModel" "text" "[I") (List.mem_of_getElem? (i := 3) rfl)) (fun _ h9 => h9) rfl dX6_readsGroups_49 ?_
            refine lv_aload_n hx hb dX6_readsGroups_52 rfl (lv_at hl 0 rfl) ?_
            refine va_get (D := (dC, dI)) (ci := 6) (v := .int (R_18 6 3)) (C := RX6) (T := TX6) (N := 15) hx hb hts hin6 hown hK hP 0 rfl rfl 7 (by decide) (hts (.fieldLink RX6 125 "FeedDeskModel" "next" "I") (List.mem_of_getElem? (i := 1) rfl)) (fun _ h9 => h9) rfl dX6_readsGroups_53 ?_
            refine va_iald (f := R_18 3) hx hb hK hP 4 0 rfl rfl (wft_in ht_18 c18) dX6_readsGroups_56 ?_
            refine lv_bipush (v := 48) hx hb dX6_readsGroups_57 (by decide) ?_
            refine lv_isub hx hb dX6_readsGroups_59 ?_
            refine lv_istore_n (lv' := [(2, .int ((R_18 3 (R_18 6 3).toNatClampNeg) - 48)), (0, .ref (a 0)), (1, .int x1_18)]) hx hb dX6_readsGroups_60 rfl hl (by decide) rfl (fun ls hl => ?_)
            refine lv_iload_n hx hb dX6_readsGroups_61 rfl (lv_at hl 0 rfl) ?_
            refine lv_iconst (v := 3) hx hb dX6_readsGroups_62 (by decide) ?_
            refine lv_icmp_gt (tgt := 74) hx hb dX6_readsGroups_63 (by decide) (fun c35 => ?_) (fun c35 => ?_)
            · rw [if_pos c35] at hR
              refine lv_iconst (v := 0) hx hb dX6_readsGroups_74 (by decide) ?_
              exact W.zret (v := 0) hx hb hr rfl (fun t ht hWw => ⟨⟨0, R_18, rfl, ⟨hR.symm.trans eR, ht_18, hsk_18, hx_18, hmn_18, (Or.inl rfl)⟩, by rw [ht]; exact hP, hD⟩, hS.F ht⟩) hS.2.2 dX6_readsGroups_75
            · rw [if_neg c35] at hR
              refine lv_iload_n hx hb dX6_readsGroups_66 rfl (lv_at hl 2 rfl) ?_
              refine lv_iload_n hx hb dX6_readsGroups_67 rfl (lv_at hl 0 rfl) ?_
              have hFc : ∀ q : Nat, va_A [] H26.size q → (va_A (cMd a cI R) s.heap.size) q := roF hS hA
              refine va_calli (va_runS (As := [.int x1_18, .int ((R_18 3 (R_18 6 3).toNatClampNeg) - 48)]) (rest := []) ⟨hx, hb, hml, hown, hts⟩ (c_X6_has l dC dI cI cC cS H26.size x1_18 ((R_18 3 (R_18 6 3).toNatClampNeg) - 48)) (va_cwS 2 hts gX6_readsGroups_X6_has rfl rfl rfl (by decide +kernel) ⟨Nat.le_of_ble_eq_true rfl, Nat.le_of_ble_eq_true rfl⟩) (pS hK (va_P_nil) (va_D_nil) hN) rfl rfl hl.1 rfl (lv_room (Nat.le_of_ble_eq_true rfl)) dX6_readsGroups_68 ⟨Nat.le_of_ble_eq_true rfl, Nat.le_of_ble_eq_true rfl⟩) hS (fun q _ h => hFc q h) hFc (fun r_36 u_36 t_36 H37 locs ht hvm hw hB hz1 hk1 hS => ?_)
              obtain ⟨hw, hre38⟩ := hw
              subst hw
              have hP := ro_keep hP hk1
              refine lv_if_eq (tgt := 76) hx hb dX6_readsGroups_71 (by decide) (fun c39 => ?_) (fun c39 => ?_)
              · rw [if_pos c39] at hR
                refine lv_iload_n hx hb dX6_readsGroups_76 rfl (lv_at hl 2 rfl) ?_
                refine lv_iconst (v := 1) hx hb dX6_readsGroups_77 (by decide) ?_
                refine lv_iload_n hx hb dX6_readsGroups_78 rfl (lv_at hl 0 rfl) ?_
                refine lv_ishl hx hb dX6_readsGroups_79 ?_
                refine lv_ior hx hb dX6_readsGroups_80 ?_
                refine lv_istore_n (lv' := [(1, .int (x1_18 ||| (1 <<< (((R_18 3 (R_18 6 3).toNatClampNeg) - 48) &&& 31)))), (2, .int ((R_18 3 (R_18 6 3).toNatClampNeg) - 48)), (0, .ref (a 0))]) hx hb dX6_readsGroups_81 rfl hl (by decide) rfl (fun ls hl => ?_)
                refine lv_aload_n hx hb dX6_readsGroups_82 rfl (lv_at hl 2 rfl) ?_
                refine lv_dup hx hb dX6_readsGroups_83 rfl ?_
                refine va_get (D := (dC, dI)) (ci := 6) (v := .int (R_18 6 3)) (C := RX6) (T := TX6) (N := 15) hx hb hts hin6 hown hK hP 0 rfl rfl 7 (by decide) (hts (.fieldLink RX6 125 "FeedDeskModel" "next" "I") (List.mem_of_getElem? (i := 1) rfl)) (fun _ h9 => h9) rfl dX6_readsGroups_84 ?_
                refine lv_iconst (v := 1) hx hb dX6_readsGroups_87 (by decide) ?_
                refine lv_iadd hx hb dX6_readsGroups_88 ?_
                refine va_put (D := (dC, dI)) (ci := 6) (v := .int ((R_18 6 3) + 1)) (ty := .int) (C := RX6) (T := TX6) (N := 15) hx hb hts hin6 tyX6 tyX6_ok nmX6 hown hK hP hD hS 0 rfl rfl 7 (by decide) (hts (.fieldLink RX6 125 "FeedDeskModel" "next" "I") (List.mem_of_getElem? (i := 1) rfl)) (fun _ h9 => h9) rfl (by decide +kernel) rfl rfl (Nat.le_of_ble_eq_true rfl) dX6_readsGroups_89 (fun H40 locs hP hD hS => ?_)
                have hP : va_P (dC, dI) vwCl (cMd a cI (sU R_18 6 3 ((R_18 6 3) + 1))) H40 := hP
                have hD : va_D (va_A (cMd a cI R) s.heap.size) (cMd a cI (sU R_18 6 3 ((R_18 6 3) + 1))) := hD
                obtain ⟨Rn41, eRn41⟩ : ∃ z : SR, z = sU R_18 6 3 ((R_18 6 3) + 1) := ⟨_, rfl⟩
                rw [sLet_eq, ← eRn41] at hR
                rw [← eRn41] at hP hD
                have ht42 : WFT Rn41 := (by rw [eRn41]; exact wft_inc ht_18 c18)
                have hsk43 : Rn41 0 = R 0 := (by rw [eRn41]; exact hsk_18)
                have hx44 : FX R Rn41 := (by rw [eRn41]; exact hx_18)
                have hmn45 : MN R Rn41 := (by rw [eRn41]; exact mn_inc hmn_18 ht_18 c18)
                refine lv_goto (tgt := 18) hx hb dX6_readsGroups_92 (by decide) ?_
                exact ih_18 (x1_18 ||| (1 <<< (((R_18 3 (R_18 6 3).toNatClampNeg) - 48) &&& 31))) Rn41 (by rw [eRn41]; exact ms_back (wft_ms ht_18 c18) hm_18) ht42 hsk43 hx44 hmn45 hR _ _ _ hP hD hS (lv_sub hl [2, 0] rfl)
              · rw [if_neg c39] at hR
                refine lv_iconst (v := 0) hx hb dX6_readsGroups_74 (by decide) ?_
                exact W.zret (v := 0) hx hb hr rfl (fun t ht hWw => ⟨⟨0, R_18, rfl, ⟨hR.symm.trans eR, ht_18, hsk_18, hx_18, hmn_18, (Or.inl rfl)⟩, by rw [ht]; exact hP, hD⟩, hS.F ht⟩) hS.2.2 dX6_readsGroups_75
    exact hL_18 142 0 Rn8 (ms_lt ht9) ht9 hsk10 hx11 hmn12 hR _ _ _ hP hD hS (lv_sub hl [1, 0] rfl)
  · rw [if_pos c17] at hR
    refine lv_iconst (v := 0) hx hb dX6_readsGroups_16 (by decide) ?_
    exact W.zret (v := 0) hx hb hr rfl (fun t ht hWw => ⟨⟨0, Rn8, rfl, ⟨hR.symm.trans eR, ht9, hsk10, hx11, hmn12, (Or.inl rfl)⟩, by rw [ht]; exact hP, hD⟩, hS.F ht⟩) hS.2.2 dX6_readsGroups_17
