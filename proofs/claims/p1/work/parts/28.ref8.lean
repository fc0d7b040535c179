abbrev rm_X6_here : Room := { frames := 0, cells := 0, slots := 0, locals := 0 }
def f_X6_here_p38     (R_38 : SR) : Int32 × SR := (if (R_38 6 2) ≤ (R_38 6 3) then ((-1), R_38) else (R_38 3 (R_38 6 3).toNatClampNeg, R_38))
def f_X6_here_p0   : Nat → SR → (Int32 × SR)
  | 0, R_0 => (0, R_0)
  | n_0 + 1, R_0 => (if (R_0 6 2) ≤ (R_0 6 3) then f_X6_here_p38 R_0 else (if (R_0 3 (R_0 6 3).toNatClampNeg) = 32 then sLet (sU R_0 6 3 ((R_0 6 3) + 1)) (fun Rn5 : SR => (f_X6_here_p0 n_0) Rn5) else f_X6_here_p38 R_0))
def f_X6_here (R : SR)  : Int32 × SR := f_X6_here_p0 142 R
set_option maxHeartbeats 4000000 in
set_option maxRecDepth 100000 in
theorem c_X6_here (l : Launch) (dC : Nat → ClassId) (dI : Nat → Nat → Nat) (cI cC cS : ClassId) (a : Nat → Nat) (R : SR) (sz : Nat)  (ht : WFT R) : Met l yX6_here wsX6_here rm_X6_here (PcG (dC, dI) (tyL cI cC cS) (cMd a cI R) sz [.ref (a 0)]) (va_Qi (fun (r : Int32) (u : SR) => (r, u) = f_X6_here R ∧ (WFT u) ∧ (u 0 = R 0) ∧ (r = -1 ∨ ¬ u 6 2 ≤ u 6 3)) (fun u U => va_P (dC, dI) vwCl (cMd a cI u) U.heap ∧ va_D (va_A (cMd a cI R) sz) (cMd a cI u)) (va_A (cMd a cI R) sz)) 0 0 (va_A (cMd a cI R) sz) := by
  refine Met.ofW (cc := cX6_here) (maxL := 1) (ret := (some .int)) (by decide) rfl ?_
  intro p e s m args below meth c s₁ B hml hv
  obtain ⟨rfl, hsz, hP, hK, hD0, hN⟩ := hv
  have hx := B.exec
  have hb := B.bytes
  have hr := B.returns
  have hts := atoms_spec (ws := wsX6_here) B.pre
  have hown : s.vm.findClass RX6 = some m.cls := findClass_of_methodNamed B.named
  have hlocks := B.notSynchronized
  subst hsz
  have hD := hD0.self (sz := s.heap.size)
  have hA : ∀ q : Nat, s.heap.size ≤ q → (va_A (cMd a cI R) s.heap.size) q := fun q h => Or.inr h
  have hS : va_S (va_A (cMd a cI R) s.heap.size) s.heap s.heap [] := va_S.rf
  have hin6 : ∀ w ∈ wsX60, w ∈ wsX6_here := fun _ h => List.mem_cons_of_mem _ (List.mem_append_right _ h)
  have hsk_0 : R 0 = R 0 := rfl
  have hl := lv_entry [.ref (a 0)] (n := 1) (Nat.le_of_ble_eq_true rfl)
  rw [lg_entry_eq]
  generalize (lg_sl [.ref (a 0)] ++ List.replicate (1 - (lg_sl [.ref (a 0)]).length) Slot.unset).toArray = ls at hl ⊢
  have hl : lv_has ls 1 [(0, .ref (a 0))] := hl
  obtain ⟨R0, eR⟩ : ∃ z, z = f_X6_here R := ⟨_, rfl⟩
  have hR := eR
  rw [f_X6_here] at hR
  have hL_0 : ∀ n_0 : Nat,  ∀  (R_0 : SR), ms (vw R_0) < n_0 → WFT R_0 → R_0 0 = R 0 → R0 = f_X6_here_p0 n_0 R_0 → ∀ (H : Heap) (locs : List Loc) (ls : Array Slot), va_P (dC, dI) vwCl (cMd a cI R_0) H → va_D (va_A (cMd a cI R) s.heap.size) (cMd a cI R_0) → va_S (va_A (cMd a cI R) s.heap.size) s.heap H locs → lv_has ls 1 [(0, .ref (a 0))] → W p l e (headSpec wsX6_here rm_X6_here).room s m ([.ref (a 0)] : List Value).toArray below meth c H locs 0 0 (MQ below (va_Qi (fun (r : Int32) (u : SR) => (r, u) = f_X6_here R ∧ (WFT u) ∧ (u 0 = R 0) ∧ (r = -1 ∨ ¬ u 6 2 ≤ u 6 3)) (fun u U => va_P (dC, dI) vwCl (cMd a cI u) U.heap ∧ va_D (va_A (cMd a cI R) s.heap.size) (cMd a cI u)) (va_A (cMd a cI R) s.heap.size)) ([.ref (a 0)] : List Value).toArray s 0 0 (va_A (cMd a cI R) s.heap.size)) (F0 m 0 ls []) := by
    intro n_0
    induction n_0 with
    | zero =>
      intro  R_0 hm_0 ht_0 hsk_0
      exact absurd hm_0 (Nat.not_lt_zero _)
    | succ n_0 ih_0 =>
      intro  R_0 hm_0 ht_0 hsk_0 hR H locs ls hP hD hS hl
      rw [f_X6_here_p0] at hR
      refine lv_aload_n hx hb dX6_here_0 rfl (lv_at hl 0 rfl) ?_
      refine va_get (D := (dC, dI)) (ci := 6) (v := .int (R_0 6 3)) (C := RX6) (T := TX6) (N := 15) hx hb hts hin6 hown hK hP 0 rfl rfl 7 (by decide) (hts (.fieldLink RX6 125 "FeedDeskModel" "next" "I") (List.mem_of_getElem? (i := 1) rfl)) (fun _ h9 => h9) rfl dX6_here_1 ?_
      refine lv_aload_n hx hb dX6_here_4 rfl (lv_at hl 0 rfl) ?_
      refine va_get (D := (dC, dI)) (ci := 6) (v := .int (R_0 6 2)) (C := RX6) (T := TX6) (N := 15) hx hb hts hin6 hown hK hP 0 rfl rfl 6 (by decide) (hts (.fieldLink RX6 122 "FeedDeskModel" "length" "I") (List.mem_of_getElem? (i := 2) rfl)) (fun _ h9 => h9) rfl dX6_here_5 ?_
      have hJ_38 : ∀   (R_38 : SR), WFT R_38 → R_38 0 = R 0 → R0 = f_X6_here_p38 R_38 → ∀ (H : Heap) (locs : List Loc) (ls : Array Slot), va_P (dC, dI) vwCl (cMd a cI R_38) H → va_D (va_A (cMd a cI R) s.heap.size) (cMd a cI R_38) → va_S (va_A (cMd a cI R) s.heap.size) s.heap H locs → lv_has ls 1 [(0, .ref (a 0))] → W p l e (headSpec wsX6_here rm_X6_here).room s m ([.ref (a 0)] : List Value).toArray below meth c H locs 0 0 (MQ below (va_Qi (fun (r : Int32) (u : SR) => (r, u) = f_X6_here R ∧ (WFT u) ∧ (u 0 = R 0) ∧ (r = -1 ∨ ¬ u 6 2 ≤ u 6 3)) (fun u U => va_P (dC, dI) vwCl (cMd a cI u) U.heap ∧ va_D (va_A (cMd a cI R) s.heap.size) (cMd a cI u)) (va_A (cMd a cI R) s.heap.size)) ([.ref (a 0)] : List Value).toArray s 0 0 (va_A (cMd a cI R) s.heap.size)) (F0 m 38 ls []) := by
        intro R_38 ht_38 hsk_38 hR H locs ls hP hD hS hl
        rw [f_X6_here_p38] at hR
        refine lv_aload_n hx hb dX6_here_38 rfl (lv_at hl 0 rfl) ?_
        refine va_get (D := (dC, dI)) (ci := 6) (v := .int (R_38 6 3)) (C := RX6) (T := TX6) (N := 15) hx hb hts hin6 hown hK hP 0 rfl rfl 7 (by decide) (hts (.fieldLink RX6 125 "FeedDeskModel" "next" "I") (List.mem_of_getElem? (i := 1) rfl)) (fun _ h9 => h9) rfl dX6_here_39 ?_
        refine lv_aload_n hx hb dX6_here_42 rfl (lv_at hl 0 rfl) ?_
        refine va_get (D := (dC, dI)) (ci := 6) (v := .int (R_38 6 2)) (C := RX6) (T := TX6) (N := 15) hx hb hts hin6 hown hK hP 0 rfl rfl 6 (by decide) (hts (.fieldLink RX6 122 "FeedDeskModel" "length" "I") (List.mem_of_getElem? (i := 2) rfl)) (fun _ h9 => h9) rfl dX6_here_43 ?_
        refine lv_icmp_ge (tgt := 61) hx hb dX6_here_46 (by decide) (fun c1 => ?_) (fun c1 => ?_)
        · rw [if_pos c1] at hR
          refine lv_iconst (v := (-1)) hx hb dX6_here_61 (by decide) ?_
          exact W.iret (v := (-1)) hx hb hr (fun t ht hWw => ⟨⟨(-1), R_38, rfl, ⟨hR.symm.trans eR, ht_38, hsk_38, (Or.inl rfl)⟩, by rw [ht]; exact hP, hD⟩, hS.F ht⟩) hS.2.2 dX6_here_62
        · rw [if_neg c1] at hR
          refine lv_aload_n hx hb dX6_here_49 rfl (lv_at hl 0 rfl) ?_
          refine va_get (D := (dC, dI)) (ci := 6) (v := .ref (a 4)) (C := RX6) (T := TX6) (N := 15) hx hb hts hin6 hown hK hP 0 rfl rfl 5 (by decide) (hts (.fieldLink RX6 19 "FeedDeskModel" "text" "[I") (List.mem_of_getElem? (i := 3) rfl)) (fun _ h9 => h9) rfl dX6_here_50 ?_
          refine lv_aload_n hx hb dX6_here_53 rfl (lv_at hl 0 rfl) ?_
          refine va_get (D := (dC, dI)) (ci := 6) (v := .int (R_38 6 3)) (C := RX6) (T := TX6) (N := 15) hx hb hts hin6 hown hK hP 0 rfl rfl 7 (by decide) (hts (.fieldLink RX6 125 "FeedDeskModel" "next" "I") (List.mem_of_getElem? (i := 1) rfl)) (fun _ h9 => h9) rfl dX6_here_54 ?_
          refine va_iald (f := R_38 3) hx hb hK hP 4 0 rfl rfl (wft_in ht_38 c1) dX6_here_57 ?_
          refine lv_goto (tgt := 62) hx hb dX6_here_58 (by decide) ?_
          exact W.iret (v := R_38 3 (R_38 6 3).toNatClampNeg) hx hb hr (fun t ht hWw => ⟨⟨R_38 3 (R_38 6 3).toNatClampNeg, R_38, rfl, ⟨hR.symm.trans eR, ht_38, hsk_38, (Or.inr c1)⟩, by rw [ht]; exact hP, hD⟩, hS.F ht⟩) hS.2.2 dX6_here_62
      refine lv_icmp_ge (tgt := 38) hx hb dX6_here_8 (by decide) (fun c2 => ?_) (fun c2 => ?_)
      · rw [if_pos c2] at hR
        exact hJ_38 R_0 ht_0 hsk_0 hR _ _ _ hP hD hS (lv_sub hl [0] rfl)
      · rw [if_neg c2] at hR
        refine lv_aload_n hx hb dX6_here_11 rfl (lv_at hl 0 rfl) ?_
        refine va_get (D := (dC, dI)) (ci := 6) (v := .ref (a 4)) (C := RX6) (T := TX6) (N := 15) hx hb hts hin6 hown hK hP 0 rfl rfl 5 (by decide) (hts (.fieldLink RX6 19 "FeedDeskModel" "text" "[I") (List.mem_of_getElem? (i := 3) rfl)) (fun _ h9 => h9) rfl dX6_here_12 ?_
        refine lv_aload_n hx hb dX6_here_15 rfl (lv_at hl 0 rfl) ?_
        refine va_get (D := (dC, dI)) (ci := 6) (v := .int (R_0 6 3)) (C := RX6) (T := TX6) (N := 15) hx hb hts hin6 hown hK hP 0 rfl rfl 7 (by decide) (hts (.fieldLink RX6 125 "FeedDeskModel" "next" "I") (List.mem_of_getElem? (i := 1) rfl)) (fun _ h9 => h9) rfl dX6_here_16 ?_
        refine va_iald (f := R_0 3) hx hb hK hP 4 0 rfl rfl (wft_in ht_0 c2) dX6_here_19 ?_
        refine lv_bipush (v := 32) hx hb dX6_here_20 (by decide) ?_
        refine lv_icmp_ne (tgt := 38) hx hb dX6_here_22 (by decide) (fun c3 => ?_) (fun c3 => ?_)
        · rw [if_neg c3] at hR
          exact hJ_38 R_0 ht_0 hsk_0 hR _ _ _ hP hD hS (lv_sub hl [0] rfl)
        · rw [if_pos c3] at hR
          refine lv_aload_n hx hb dX6_here_25 rfl (lv_at hl 0 rfl) ?_
          refine lv_dup hx hb dX6_here_26 rfl ?_
          refine va_get (D := (dC, dI)) (ci := 6) (v := .int (R_0 6 3)) (C := RX6) (T := TX6) (N := 15) hx hb hts hin6 hown hK hP 0 rfl rfl 7 (by decide) (hts (.fieldLink RX6 125 "FeedDeskModel" "next" "I") (List.mem_of_getElem? (i := 1) rfl)) (fun _ h9 => h9) rfl dX6_here_27 ?_
          refine lv_iconst (v := 1) hx hb dX6_here_30 (by decide) ?_
          refine lv_iadd hx hb dX6_here_31 ?_
          refine va_put (D := (dC, dI)) (ci := 6) (v := .int ((R_0 6 3) + 1)) (ty := .int) (C := RX6) (T := TX6) (N := 15) hx hb hts hin6 tyX6 tyX6_ok nmX6 hown hK hP hD hS 0 rfl rfl 7 (by decide) (hts (.fieldLink RX6 125 "FeedDeskModel" "next" "I") (List.mem_of_getElem? (i := 1) rfl)) (fun _ h9 => h9) rfl (by decide +kernel) rfl rfl (Nat.le_of_ble_eq_true rfl) dX6_here_32 (fun H4 locs hP hD hS => ?_)
          have hP : va_P (dC, dI) vwCl (cMd a cI (sU R_0 6 3 ((R_0 6 3) + 1))) H4 := hP
          have hD : va_D (va_A (cMd a cI R) s.heap.size) (cMd a cI (sU R_0 6 3 ((R_0 6 3) + 1))) := hD
          obtain ⟨Rn5, eRn5⟩ : ∃ z : SR, z = sU R_0 6 3 ((R_0 6 3) + 1) := ⟨_, rfl⟩
          rw [sLet_eq, ← eRn5] at hR
          rw [← eRn5] at hP hD
          have ht6 : WFT Rn5 := (by rw [eRn5]; exact wft_inc ht_0 c2)
          have hsk7 : Rn5 0 = R 0 := (by rw [eRn5]; exact hsk_0)
          refine lv_goto (tgt := 0) hx hb dX6_here_35 (by decide) ?_
          exact ih_0 Rn5 (by rw [eRn5]; exact ms_back (wft_ms ht_0 c2) hm_0) ht6 hsk7 hR _ _ _ hP hD hS (lv_sub hl [0] rfl)
  exact hL_0 142 R (ms_lt ht) ht hsk_0 hR _ _ _ hP hD hS (lv_sub hl [0] rfl)
abbrev rm_X6_takes : Room := { frames := 1, cells := 0, slots := 0, locals := 20 }
def f_X6_takes (R : SR) (p1 : Int32) : Int32 × SR := sLet ((f_X6_here R).2) (fun Rn6 : SR => (if ((f_X6_here R).1) = p1 then sLet (sU Rn6 6 3 ((Rn6 6 3) + 1)) (fun Rn18 : SR => (1, Rn18)) else sLet (sU Rn6 6 3 ((Rn6 6 3) + 0)) (fun Rn13 : SR => (0, Rn13))))
set_option maxHeartbeats 4000000 in
set_option maxRecDepth 100000 in
theorem c_X6_takes (l : Launch) (dC : Nat → ClassId) (dI : Nat → Nat → Nat) (cI cC cS : ClassId) (a : Nat → Nat) (R : SR) (sz : Nat) (p1 : Int32) (hp1 : ¬ p1 = -1) (ht : WFT R) : Met l yX6_takes wsX6_takes rm_X6_takes (PcG (dC, dI) (tyL cI cC cS) (cMd a cI R) sz [.ref (a 0), .int p1]) (va_Qi (fun (r : Int32) (u : SR) => (r, u) = f_X6_takes R p1 ∧ (WFT u) ∧ (u 0 = R 0) ∧ (r = 0 ∨ r = 1)) (fun u U => va_P (dC, dI) vwCl (cMd a cI u) U.heap ∧ va_D (va_A (cMd a cI R) sz) (cMd a cI u)) (va_A (cMd a cI R) sz)) 0 0 (va_A (cMd a cI R) sz) := by
  refine Met.ofW (cc := cX6_takes) (maxL := 3) (ret := (some .boolean)) (by decide) rfl ?_
  intro p e s m args below meth c s₁ B hml hv
  obtain ⟨rfl, hsz, hP, hK, hD0, hN⟩ := hv
  have hx := B.exec
  have hb := B.bytes
  have hr := B.returns
  have hts := atoms_spec (ws := wsX6_takes) B.pre
  have hown : s.vm.findClass RX6 = some m.cls := findClass_of_methodNamed B.named
  have hlocks := B.notSynchronized
  subst hsz
  have hD := hD0.self (sz := s.heap.size)
  have hA : ∀ q : Nat, s.heap.size ≤ q → (va_A (cMd a cI R) s.heap.size) q := fun q h => Or.inr h
  have hS : va_S (va_A (cMd a cI R) s.heap.size) s.heap s.heap [] := va_S.rf
  have hin6 : ∀ w ∈ wsX60, w ∈ wsX6_takes := fun _ h => List.mem_cons_of_mem _ (List.mem_append_right _ h)
  have hsk_0 : R 0 = R 0 := rfl
  have hl := lv_entry [.ref (a 0), .int p1] (n := 3) (Nat.le_of_ble_eq_true rfl)
  rw [lg_entry_eq]
  generalize (lg_sl [.ref (a 0), .int p1] ++ List.replicate (3 - (lg_sl [.ref (a 0), .int p1]).length) Slot.unset).toArray = ls at hl ⊢
  have hl : lv_has ls 3 [(0, .ref (a 0)), (1, .int p1)] := hl
  obtain ⟨R0, eR⟩ : ∃ z, z = f_X6_takes R p1 := ⟨_, rfl⟩
  have hR := eR
  rw [f_X6_takes] at hR
  refine lv_aload_n hx hb dX6_takes_0 rfl (lv_at hl 0 rfl) ?_
  have hPc : va_P (dC, dI) vwCl (cMd a cI R) s.heap := hP.sub [0, 1, 2, 3, 4, 5, 6] rfl
  have hDc : va_D (va_A (cMd a cI R) s.heap.size) (cMd a cI R) := hD.sub [0, 1, 2, 3, 4, 5, 6] (by decide) rfl
  have hFc : ∀ q : Nat, va_A (cMd a cI R) s.heap.size q → (va_A (cMd a cI R) s.heap.size) q := va_free hD hS hA [0, 1, 2, 3, 4, 5, 6] rfl
  refine va_calli (va_runV (As := []) (rest := []) ⟨hx, hb, hml, hown, hts⟩ (c_X6_here l dC dI cI cC cS a R s.heap.size ht) (cwV 0 hts gX6_takes_X6_here rfl rfl rfl (by decide +kernel) ⟨Nat.le_of_ble_eq_true rfl, Nat.le_of_ble_eq_true rfl⟩) (pV (q0 := 0) hK hPc hDc hN rfl rfl) rfl rfl hl.1 rfl (lv_room (Nat.le_of_ble_eq_true rfl)) dX6_takes_1 ⟨Nat.le_of_ble_eq_true rfl, Nat.le_of_ble_eq_true rfl⟩) hS (fun q _ h => hFc q h) hFc (fun r_1 u_1 t_1 H2 locs ht hvm hw hB hz1 hk1 hS => ?_)
  obtain ⟨hw, hens3, hens4, hens5⟩ := hw
  obtain ⟨hP1, hD1⟩ := hB
  rw [ht] at hP1
  have hw1 : r_1 = (f_X6_here R).1 := congrArg Prod.fst hw
  have hw2 : u_1 = (f_X6_here R).2 := congrArg Prod.snd hw
  clear hw
  subst hw1
  subst hw2
  obtain ⟨hP, hD⟩ := va_join (wc := cMd a cI R) (wr := []) (w1 := cMd a cI ((f_X6_here R).2)) hP hD [0, 1, 2, 3, 4, 5, 6] [] rfl rfl (by decide) (by decide) hk1 hFc hP1 hD1
  have hP : va_P (dC, dI) vwCl (cMd a cI ((f_X6_here R).2)) H2 := hP.sub [0, 1, 2, 3, 4, 5, 6] rfl
  have hD : va_D (va_A (cMd a cI R) s.heap.size) (cMd a cI ((f_X6_here R).2)) := hD.sub [0, 1, 2, 3, 4, 5, 6] (by decide) rfl
  obtain ⟨Rn6, eRn6⟩ : ∃ z : SR, z = (f_X6_here R).2 := ⟨_, rfl⟩
  rw [sLet_eq, ← eRn6] at hR
  rw [← eRn6] at hP hD
  have ht7 : WFT Rn6 := by rw [eRn6]; exact hens3
  have hsk8 : Rn6 0 = R 0 := by rw [eRn6]; exact hens4
  have hq9 : ((f_X6_here R).1) = -1 ∨ ¬ Rn6 6 2 ≤ Rn6 6 3 := by rw [eRn6]; exact hens5
  refine lv_iload_n hx hb dX6_takes_4 rfl (lv_at hl 1 rfl) ?_
  refine lv_icmp_ne (tgt := 12) hx hb dX6_takes_5 (by decide) (fun c10 => ?_) (fun c10 => ?_)
  · rw [if_neg c10] at hR
    refine lv_iconst (v := 0) hx hb dX6_takes_12 (by decide) ?_
    refine lv_istore_n (lv' := [(2, .int 0), (0, .ref (a 0)), (1, .int p1)]) hx hb dX6_takes_13 rfl hl (by decide) rfl (fun ls hl => ?_)
    refine lv_aload_n hx hb dX6_takes_14 rfl (lv_at hl 1 rfl) ?_
    refine lv_dup hx hb dX6_takes_15 rfl ?_
    refine va_get (D := (dC, dI)) (ci := 6) (v := .int (Rn6 6 3)) (C := RX6) (T := TX6) (N := 15) hx hb hts hin6 hown hK hP 0 rfl rfl 7 (by decide) (hts (.fieldLink RX6 125 "FeedDeskModel" "next" "I") (List.mem_of_getElem? (i := 1) rfl)) (fun _ h9 => h9) rfl dX6_takes_16 ?_
    refine lv_iload_n hx hb dX6_takes_19 rfl (lv_at hl 0 rfl) ?_
    refine lv_if_eq (tgt := 27) hx hb dX6_takes_20 (by decide) (fun c11 => ?_) (fun c11 => ?_)
    · refine lv_iconst (v := 0) hx hb dX6_takes_27 (by decide) ?_
      refine lv_iadd hx hb dX6_takes_28 ?_
      refine va_put (D := (dC, dI)) (ci := 6) (v := .int ((Rn6 6 3) + 0)) (ty := .int) (C := RX6) (T := TX6) (N := 15) hx hb hts hin6 tyX6 tyX6_ok nmX6 hown hK hP hD hS 0 rfl rfl 7 (by decide) (hts (.fieldLink RX6 125 "FeedDeskModel" "next" "I") (List.mem_of_getElem? (i := 1) rfl)) (fun _ h9 => h9) rfl (by decide +kernel) rfl rfl (Nat.le_of_ble_eq_true rfl) dX6_takes_29 (fun H12 locs hP hD hS => ?_)
      have hP : va_P (dC, dI) vwCl (cMd a cI (sU Rn6 6 3 ((Rn6 6 3) + 0))) H12 := hP
      have hD : va_D (va_A (cMd a cI R) s.heap.size) (cMd a cI (sU Rn6 6 3 ((Rn6 6 3) + 0))) := hD
      obtain ⟨Rn13, eRn13⟩ : ∃ z : SR, z = sU Rn6 6 3 ((Rn6 6 3) + 0) := ⟨_, rfl⟩
      rw [sLet_eq, ← eRn13] at hR
      rw [← eRn13] at hP hD
      have ht14 : WFT Rn13 := (by rw [eRn13, Int32.add_zero]; exact ht7)
      have hsk15 : Rn13 0 = R 0 := (by rw [eRn13]; exact hsk8)
      refine lv_iload_n hx hb dX6_takes_32 rfl (lv_at hl 0 rfl) ?_
      exact W.zret (v := 0) hx hb hr rfl (fun t ht hWw => ⟨⟨0, Rn13, rfl, ⟨hR.symm.trans eR, ht14, hsk15, (Or.inl rfl)⟩, by rw [ht]; exact hP, hD⟩, hS.F ht⟩) hS.2.2 dX6_takes_33
    · exact absurd c11 (by decide)
  · rw [if_pos c10] at hR
    refine lv_iconst (v := 1) hx hb dX6_takes_8 (by decide) ?_
    refine lv_goto (tgt := 13) hx hb dX6_takes_9 (by decide) ?_
    refine lv_istore_n (lv' := [(2, .int 1), (0, .ref (a 0)), (1, .int p1)]) hx hb dX6_takes_13 rfl hl (by decide) rfl (fun ls hl => ?_)
    refine lv_aload_n hx hb dX6_takes_14 rfl (lv_at hl 1 rfl) ?_
    refine lv_dup hx hb dX6_takes_15 rfl ?_
    refine va_get (D := (dC, dI)) (ci := 6) (v := .int (Rn6 6 3)) (C := RX6) (T := TX6) (N := 15) hx hb hts hin6 hown hK hP 0 rfl rfl 7 (by decide) (hts (.fieldLink RX6 125 "FeedDeskModel" "next" "I") (List.mem_of_getElem? (i := 1) rfl)) (fun _ h9 => h9) rfl dX6_takes_16 ?_
    refine lv_iload_n hx hb dX6_takes_19 rfl (lv_at hl 0 rfl) ?_
    refine lv_if_eq (tgt := 27) hx hb dX6_takes_20 (by decide) (fun c16 => ?_) (fun c16 => ?_)
    · exact absurd c16 (by decide)
    · refine lv_iconst (v := 1) hx hb dX6_takes_23 (by decide) ?_
      refine lv_goto (tgt := 28) hx hb dX6_takes_24 (by decide) ?_
      refine lv_iadd hx hb dX6_takes_28 ?_
      refine va_put (D := (dC, dI)) (ci := 6) (v := .int ((Rn6 6 3) + 1)) (ty := .int) (C := RX6) (T := TX6) (N := 15) hx hb hts hin6 tyX6 tyX6_ok nmX6 hown hK hP hD hS 0 rfl rfl 7 (by decide) (hts (.fieldLink RX6 125 "FeedDeskModel" "next" "I") (List.mem_of_getElem? (i := 1) rfl)) (fun _ h9 => h9) rfl (by decide +kernel) rfl rfl (Nat.le_of_ble_eq_true rfl) dX6_takes_29 (fun H17 locs hP hD hS => ?_)
      have hP : va_P (dC, dI) vwCl (cMd a cI (sU Rn6 6 3 ((Rn6 6 3) + 1))) H17 := hP
      have hD : va_D (va_A (cMd a cI R) s.heap.size) (cMd a cI (sU Rn6 6 3 ((Rn6 6 3) + 1))) := hD
      obtain ⟨Rn18, eRn18⟩ : ∃ z : SR, z = sU Rn6 6 3 ((Rn6 6 3) + 1) := ⟨_, rfl⟩
      rw [sLet_eq, ← eRn18] at hR
      rw [← eRn18] at hP hD
      have ht19 : WFT Rn18 := (by rw [eRn18]; exact wft_inc ht7 (here_lt hq9 c10 hp1))
      have hsk20 : Rn18 0 = R 0 := (by rw [eRn18]; exact hsk8)
      refine lv_iload_n hx hb dX6_takes_32 rfl (lv_at hl 0 rfl) ?_
      exact W.zret (v := 1) hx hb hr rfl (fun t ht hWw => ⟨⟨1, Rn18, rfl, ⟨hR.symm.trans eR, ht19, hsk20, (Or.inr rfl)⟩, by rw [ht]; exact hP, hD⟩, hS.F ht⟩) hS.2.2 dX6_takes_33
abbrev rm_X6_reads : Room := { frames := 1, cells := 0, slots := 0, locals := 22 }
def f_X6_reads_p14 (p1 : Int32) (p2 : Int32)  : Nat → Int32 → Int32 → Int32 → SR → (Int32 × SR)
  | 0, _, _, _, R_14 => (0, R_14)
  | n_14 + 1, x3_14, x4_14, x5_14, R_14 => (if (R_14 6 2) ≤ (R_14 6 3) then (if (R_14 6 3) ≤ x4_14 then sLet (sU R_14 6 3 x4_14) (fun Rn14 : SR => sLet (sU Rn14 6 4 x5_14) (fun Rn18 : SR => (0, Rn18))) else (if x3_14 = 48 then (if (R_14 6 3) = (x4_14 + 1) then (if (f_X6_in x5_14 p1 p2) = 0 then sLet (sU R_14 6 3 x4_14) (fun Rn60 : SR => sLet (sU Rn60 6 4 x5_14) (fun Rn64 : SR => (0, Rn64))) else sLet (sU R_14 6 3 (R_14 6 3)) (fun Rn69 : SR => sLet (sU Rn69 6 4 x5_14) (fun Rn73 : SR => (1, Rn73)))) else sLet (sU R_14 6 3 x4_14) (fun Rn47 : SR => sLet (sU Rn47 6 4 x5_14) (fun Rn51 : SR => (0, Rn51)))) else (if (f_X6_in x5_14 p1 p2) = 0 then sLet (sU R_14 6 3 x4_14) (fun Rn28 : SR => sLet (sU Rn28 6 4 x5_14) (fun Rn32 : SR => (0, Rn32))) else sLet (sU R_14 6 3 (R_14 6 3)) (fun Rn37 : SR => sLet (sU Rn37 6 4 x5_14) (fun Rn41 : SR => (1, Rn41)))))) else (if (f_X6_in (R_14 3 (R_14 6 3).toNatClampNeg) 48 57) = 0 then (if (R_14 6 3) ≤ x4_14 then sLet (sU R_14 6 3 x4_14) (fun Rn83 : SR => sLet (sU Rn83 6 4 x5_14) (fun Rn87 : SR => (0, Rn87))) else (if x3_14 = 48 then (if (R_14 6 3) = (x4_14 + 1) then (if (f_X6_in x5_14 p1 p2) = 0 then sLet (sU R_14 6 3 x4_14) (fun Rn129 : SR => sLet (sU Rn129 6 4 x5_14) (fun Rn133 : SR => (0, Rn133))) else sLet (sU R_14 6 3 (R_14 6 3)) (fun Rn138 : SR => sLet (sU Rn138 6 4 x5_14) (fun Rn142 : SR => (1, Rn142)))) else sLet (sU R_14 6 3 x4_14) (fun Rn116 : SR => sLet (sU Rn116 6 4 x5_14) (fun Rn120 : SR => (0, Rn120)))) else (if (f_X6_in x5_14 p1 p2) = 0 then sLet (sU R_14 6 3 x4_14) (fun Rn97 : SR => sLet (sU Rn97 6 4 x5_14) (fun Rn101 : SR => (0, Rn101))) else sLet (sU R_14 6 3 (R_14 6 3)) (fun Rn106 : SR => sLet (sU Rn106 6 4 x5_14) (fun Rn110 : SR => (1, Rn110)))))) else (if 100000 ≤ x5_14 then sLet (sU R_14 6 3 ((R_14 6 3) + 1)) (fun Rn147 : SR => (f_X6_reads_p14 p1 p2 n_14) x3_14 x4_14 x5_14 Rn147) else sLet (sU R_14 6 3 ((R_14 6 3) + 1)) (fun Rn151 : SR => (f_X6_reads_p14 p1 p2 n_14) x3_14 x4_14 (((10 * x5_14) + (R_14 3 (R_14 6 3).toNatClampNeg)) - 48) Rn151))))
def f_X6_reads (R : SR) (p1 : Int32) (p2 : Int32) : Int32 × SR := sLet ((f_X6_here R).2) (fun Rn6 : SR => f_X6_reads_p14 p1 p2 142 ((f_X6_here R).1) (Rn6 6 3) 0 Rn6)
set_option maxHeartbeats 4000000 in
set_option maxRecDepth 100000 in
theorem c_X6_reads (l : Launch) (dC : Nat → ClassId) (dI : Nat → Nat → Nat) (cI cC cS : ClassId) (a : Nat → Nat) (R : SR) (sz : Nat) (p1 : Int32) (p2 : Int32) (ht : WFT R) : Met l yX6_reads wsX6_reads rm_X6_reads (PcG (dC, dI) (tyL cI cC cS) (cMd a cI R) sz [.ref (a 0), .int p1, .int p2]) (va_Qi (fun (r : Int32) (u : SR) => (r, u) = f_X6_reads R p1 p2 ∧ (WFT u) ∧ (u 0 = R 0) ∧ (r = 0 ∨ (¬ u 6 4 < p1 ∧ ¬ p2 < u 6 4)) ∧ (r = 0 ∨ r = 1)) (fun u U => va_P (dC, dI) vwCl (cMd a cI u) U.heap ∧ va_D (va_A (cMd a cI R) sz) (cMd a cI u)) (va_A (cMd a cI R) sz)) 0 0 (va_A (cMd a cI R) sz) := by
  refine Met.ofW (cc := cX6_reads) (maxL := 7) (ret := (some .boolean)) (by decide) rfl ?_
  intro p e s m args below meth c s₁ B hml hv
  obtain ⟨rfl, hsz, hP, hK, hD0, hN⟩ := hv
  have hx := B.exec
  have hb := B.bytes
  have hr := B.returns
  have hts := atoms_spec (ws := wsX6_reads) B.pre
  have hown : s.vm.findClass RX6 = some m.cls := findClass_of_methodNamed B.named
  have hlocks := B.notSynchronized
  subst hsz
  have hD := hD0.self (sz := s.heap.size)
  have hA : ∀ q : Nat, s.heap.size ≤ q → (va_A (cMd a cI R) s.heap.size) q := fun q h => Or.inr h
  have hS : va_S (va_A (cMd a cI R) s.heap.size) s.heap s.heap [] := va_S.rf
  have hin6 : ∀ w ∈ wsX60, w ∈ wsX6_reads := fun _ h => List.mem_cons_of_mem _ (List.mem_append_right _ h)
  have hsk_0 : R 0 = R 0 := rfl
  have hl := lv_entry [.ref (a 0), .int p1, .int p2] (n := 7) (Nat.le_of_ble_eq_true rfl)
  rw [lg_entry_eq]
  generalize (lg_sl [.ref (a 0), .int p1, .int p2] ++ List.replicate (7 - (lg_sl [.ref (a 0), .int p1, .int p2]).length) Slot.unset).toArray = ls at hl ⊢
  have hl : lv_has ls 7 [(0, .ref (a 0)), (1, .int p1), (2, .int p2)] := hl
  obtain ⟨R0, eR⟩ : ∃ z, z = f_X6_reads R p1 p2 := ⟨_, rfl⟩
  have hR := eR
  rw [f_X6_reads] at hR
  refine lv_aload_n hx hb dX6_reads_0 rfl (lv_at hl 0 rfl) ?_
  have hPc : va_P (dC, dI) vwCl (cMd a cI R) s.heap := hP.sub [0, 1, 2, 3, 4, 5, 6] rfl
  have hDc : va_D (va_A (cMd a cI R) s.heap.size) (cMd a cI R) := hD.sub [0, 1, 2, 3, 4, 5, 6] (by decide) rfl
  have hFc : ∀ q : Nat, va_A (cMd a cI R) s.heap.size q → (va_A (cMd a cI R) s.heap.size) q := va_free hD hS hA [0, 1, 2, 3, 4, 5, 6] rfl
  refine va_calli (va_runV (As := []) (rest := []) ⟨hx, hb, hml, hown, hts⟩ (c_X6_here l dC dI cI cC cS a R s.heap.size ht) (cwV 0 hts gX6_reads_X6_here rfl rfl rfl (by decide +kernel) ⟨Nat.le_of_ble_eq_true rfl, Nat.le_of_ble_eq_true rfl⟩) (pV (q0 := 0) hK hPc hDc hN rfl rfl) rfl rfl hl.1 rfl (lv_room (Nat.le_of_ble_eq_true rfl)) dX6_reads_1 ⟨Nat.le_of_ble_eq_true rfl, Nat.le_of_ble_eq_true rfl⟩) hS (fun q _ h => hFc q h) hFc (fun r_1 u_1 t_1 H2 locs ht hvm hw hB hz1 hk1 hS => ?_)
  obtain ⟨hw, hens3, hens4, hens5⟩ := hw
  obtain ⟨hP1, hD1⟩ := hB
  rw [ht] at hP1
  have hw1 : r_1 = (f_X6_here R).1 := congrArg Prod.fst hw
  have hw2 : u_1 = (f_X6_here R).2 := congrArg Prod.snd hw
  clear hw
  subst hw1
  subst hw2
  obtain ⟨hP, hD⟩ := va_join (wc := cMd a cI R) (wr := []) (w1 := cMd a cI ((f_X6_here R).2)) hP hD [0, 1, 2, 3, 4, 5, 6] [] rfl rfl (by decide) (by decide) hk1 hFc hP1 hD1
  have hP : va_P (dC, dI) vwCl (cMd a cI ((f_X6_here R).2)) H2 := hP.sub [0, 1, 2, 3, 4, 5, 6] rfl
  have hD : va_D (va_A (cMd a cI R) s.heap.size) (cMd a cI ((f_X6_here R).2)) := hD.sub [0, 1, 2, 3, 4, 5, 6] (by decide) rfl
  obtain ⟨Rn6, eRn6⟩ : ∃ z : SR, z = (f_X6_here R).2 := ⟨_, rfl⟩
  rw [sLet_eq, ← eRn6] at hR
  rw [← eRn6] at hP hD
  have ht7 : WFT Rn6 := by rw [eRn6]; exact hens3
  have hsk8 : Rn6 0 = R 0 := by rw [eRn6]; exact hens4
  have hq9 : ((f_X6_here R).1) = -1 ∨ ¬ Rn6 6 2 ≤ Rn6 6 3 := by rw [eRn6]; exact hens5
  refine lv_istore_n (lv' := [(3, .int ((f_X6_here R).1)), (0, .ref (a 0)), (1, .int p1), (2, .int p2)]) hx hb dX6_reads_4 rfl hl (by decide) rfl (fun ls hl => ?_)
  refine lv_aload_n hx hb dX6_reads_5 rfl (lv_at hl 1 rfl) ?_
  refine va_get (D := (dC, dI)) (ci := 6) (v := .int (Rn6 6 3)) (C := RX6) (T := TX6) (N := 15) hx hb hts hin6 hown hK hP 0 rfl rfl 7 (by decide) (hts (.fieldLink RX6 125 "FeedDeskModel" "next" "I") (List.mem_of_getElem? (i := 1) rfl)) (fun _ h9 => h9) rfl dX6_reads_6 ?_
  refine lv_istore (lv' := [(4, .int (Rn6 6 3)), (3, .int ((f_X6_here R).1)), (0, .ref (a 0)), (1, .int p1), (2, .int p2)]) hx hb dX6_reads_9 hl (by decide) rfl (fun ls hl => ?_)
  refine lv_iconst (v := 0) hx hb dX6_reads_11 (by decide) ?_
  refine lv_istore (lv' := [(5, .int 0), (4, .int (Rn6 6 3)), (3, .int ((f_X6_here R).1)), (0, .ref (a 0)), (1, .int p1), (2, .int p2)]) hx hb dX6_reads_12 hl (by decide) rfl (fun ls hl => ?_)
  have hL_14 : ∀ n_14 : Nat,  ∀ (x3_14 : Int32) (x4_14 : Int32) (x5_14 : Int32) (R_14 : SR), ms (vw R_14) < n_14 → WFT R_14 → R_14 0 = R 0 → FK x4_14 (vw R_14) → R0 = f_X6_reads_p14 p1 p2 n_14 x3_14 x4_14 x5_14 R_14 → ∀ (H : Heap) (locs : List Loc) (ls : Array Slot), va_P (dC, dI) vwCl (cMd a cI R_14) H → va_D (va_A (cMd a cI R) s.heap.size) (cMd a cI R_14) → va_S (va_A (cMd a cI R) s.heap.size) s.heap H locs → lv_has ls 7 [(0, .ref (a 0)), (1, .int p1), (2, .int p2), (3, .int x3_14), (4, .int x4_14), (5, .int x5_14)] → W p l e (headSpec wsX6_reads rm_X6_reads).room s m ([.ref (a 0), .int p1, .int p2] : List Value).toArray below meth c H locs 0 0 (MQ below (va_Qi (fun (r : Int32) (u : SR) => (r, u) = f_X6_reads R p1 p2 ∧ (WFT u) ∧ (u 0 = R 0) ∧ (r = 0 ∨ (¬ u 6 4 < p1 ∧ ¬ p2 < u 6 4)) ∧ (r = 0 ∨ r = 1)) (fun u U => va_P (dC, dI) vwCl (cMd a cI u) U.heap ∧ va_D (va_A (cMd a cI R) s.heap.size) (cMd a cI u)) (va_A (cMd a cI R) s.heap.size)) ([.ref (a 0), .int p1, .int p2] : List Value).toArray s 0 0 (va_A (cMd a cI R) s.heap.size)) (F0 m 14 ls []) := by
    intro n_14
    induction n_14 with
    | zero =>
      intro  x3_14 x4_14 x5_14 R_14 hm_14 ht_14 hsk_14 hf_14
      exact absurd hm_14 (Nat.not_lt_zero _)
    | succ n_14 ih_14 =>
      intro  x3_14 x4_14 x5_14 R_14 hm_14 ht_14 hsk_14 hf_14 hR H locs ls hP hD hS hl
      rw [f_X6_reads_p14] at hR
      refine lv_aload_n hx hb dX6_reads_14 rfl (lv_at hl 0 rfl) ?_
      refine va_get (D := (dC, dI)) (ci := 6) (v := .int (R_14 6 3)) (C := RX6) (T := TX6) (N := 15) hx hb hts hin6 hown hK hP 0 rfl rfl 7 (by decide) (hts (.fieldLink RX6 125 "FeedDeskModel" "next" "I") (List.mem_of_getElem? (i := 1) rfl)) (fun _ h9 => h9) rfl dX6_reads_15 ?_
      refine lv_aload_n hx hb dX6_reads_18 rfl (lv_at hl 0 rfl) ?_
      refine va_get (D := (dC, dI)) (ci := 6) (v := .int (R_14 6 2)) (C := RX6) (T := TX6) (N := 15) hx hb hts hin6 hown hK hP 0 rfl rfl 6 (by decide) (hts (.fieldLink RX6 122 "FeedDeskModel" "length" "I") (List.mem_of_getElem? (i := 2) rfl)) (fun _ h9 => h9) rfl dX6_reads_19 ?_
      refine lv_icmp_ge (tgt := 89) hx hb dX6_reads_22 (by decide) (fun c10 => ?_) (fun c10 => ?_)
      · rw [if_pos c10] at hR
        refine lv_aload_n hx hb dX6_reads_89 rfl (lv_at hl 0 rfl) ?_
        refine va_get (D := (dC, dI)) (ci := 6) (v := .int (R_14 6 3)) (C := RX6) (T := TX6) (N := 15) hx hb hts hin6 hown hK hP 0 rfl rfl 7 (by decide) (hts (.fieldLink RX6 125 "FeedDeskModel" "next" "I") (List.mem_of_getElem? (i := 1) rfl)) (fun _ h9 => h9) rfl dX6_reads_90 ?_
        refine lv_iload hx hb dX6_reads_93 (lv_at hl 4 rfl) ?_
        refine lv_icmp_le (tgt := 129) hx hb dX6_reads_95 (by decide) (fun c11 => ?_) (fun c11 => ?_)
        · rw [if_pos c11] at hR
          refine lv_iconst (v := 0) hx hb dX6_reads_129 (by decide) ?_
          refine lv_istore (lv' := [(6, .int 0), (0, .ref (a 0)), (1, .int p1), (2, .int p2), (3, .int x3_14), (4, .int x4_14), (5, .int x5_14)]) hx hb dX6_reads_130 hl (by decide) rfl (fun ls hl => ?_)
          refine lv_aload_n hx hb dX6_reads_132 rfl (lv_at hl 1 rfl) ?_
          refine lv_iload hx hb dX6_reads_133 (lv_at hl 0 rfl) ?_
          refine lv_if_eq (tgt := 145) hx hb dX6_reads_135 (by decide) (fun c12 => ?_) (fun c12 => ?_)
          · refine lv_iload hx hb dX6_reads_145 (lv_at hl 5 rfl) ?_
            refine va_put (D := (dC, dI)) (ci := 6) (v := .int x4_14) (ty := .int) (C := RX6) (T := TX6) (N := 15) hx hb hts hin6 tyX6 tyX6_ok nmX6 hown hK hP hD hS 0 rfl rfl 7 (by decide) (hts (.fieldLink RX6 125 "FeedDeskModel" "next" "I") (List.mem_of_getElem? (i := 1) rfl)) (fun _ h9 => h9) rfl (by decide +kernel) rfl rfl (Nat.le_of_ble_eq_true rfl) dX6_reads_147 (fun H13 locs hP hD hS => ?_)
            have hP : va_P (dC, dI) vwCl (cMd a cI (sU R_14 6 3 x4_14)) H13 := hP
            have hD : va_D (va_A (cMd a cI R) s.heap.size) (cMd a cI (sU R_14 6 3 x4_14)) := hD
            obtain ⟨Rn14, eRn14⟩ : ∃ z : SR, z = sU R_14 6 3 x4_14 := ⟨_, rfl⟩
            rw [sLet_eq, ← eRn14] at hR
            rw [← eRn14] at hP hD
            have ht15 : WFT Rn14 := (by rw [eRn14]; exact fkr_first hf_14)
            have hsk16 : Rn14 0 = R 0 := (by rw [eRn14]; exact hsk_14)
            refine lv_aload_n hx hb dX6_reads_150 rfl (lv_at hl 1 rfl) ?_
            refine lv_iload hx hb dX6_reads_151 (lv_at hl 6 rfl) ?_
            refine va_put (D := (dC, dI)) (ci := 6) (v := .int x5_14) (ty := .int) (C := RX6) (T := TX6) (N := 15) hx hb hts hin6 tyX6 tyX6_ok nmX6 hown hK hP hD hS 0 rfl rfl 8 (by decide) (hts (.fieldLink RX6 132 "FeedDeskModel" "number" "I") (List.mem_of_getElem? (i := 5) rfl)) (fun _ h9 => h9) rfl (by decide +kernel) rfl rfl (Nat.le_of_ble_eq_true rfl) dX6_reads_153 (fun H17 locs hP hD hS => ?_)
            have hP : va_P (dC, dI) vwCl (cMd a cI (sU Rn14 6 4 x5_14)) H17 := hP
            have hD : va_D (va_A (cMd a cI R) s.heap.size) (cMd a cI (sU Rn14 6 4 x5_14)) := hD
            obtain ⟨Rn18, eRn18⟩ : ∃ z : SR, z = sU Rn14 6 4 x5_14 := ⟨_, rfl⟩
            rw [sLet_eq, ← eRn18] at hR
            rw [← eRn18] at hP hD
            have ht19 : WFT Rn18 := (by rw [eRn18]; exact ht15)
            have hsk20 : Rn18 0 = R 0 := (by rw [eRn18]; exact hsk16)
            refine lv_iload hx hb dX6_reads_156 (lv_at hl 0 rfl) ?_
            exact W.zret (v := 0) hx hb hr rfl (fun t ht hWw => ⟨⟨0, Rn18, rfl, ⟨hR.symm.trans eR, ht19, hsk20, (Or.inl rfl), (Or.inl rfl)⟩, by rw [ht]; exact hP, hD⟩, hS.F ht⟩) hS.2.2 dX6_reads_158
          · exact absurd c12 (by decide)
        · rw [if_neg c11] at hR
          refine lv_iload_n hx hb dX6_reads_98 rfl (lv_at hl 3 rfl) ?_
          refine lv_bipush (v := 48) hx hb dX6_reads_99 (by decide) ?_
          refine lv_icmp_ne (tgt := 115) hx hb dX6_reads_101 (by decide) (fun c21 => ?_) (fun c21 => ?_)
          · rw [if_neg c21] at hR
            refine lv_iload hx hb dX6_reads_115 (lv_at hl 5 rfl) ?_
            refine lv_iload_n hx hb dX6_reads_117 rfl (lv_at hl 1 rfl) ?_
            refine lv_iload_n hx hb dX6_reads_118 rfl (lv_at hl 2 rfl) ?_
            have hFc : ∀ q : Nat, va_A [] H.size q → (va_A (cMd a cI R) s.heap.size) q := roF hS hA
            refine va_calli (va_runS (As := [.int x5_14, .int p1, .int p2]) (rest := []) ⟨hx, hb, hml, hown, hts⟩ (c_X6_in l dC dI cI cC cS H.size x5_14 p1 p2) (va_cwS 3 hts gX6_reads_X6_in rfl rfl rfl (by decide +kernel) ⟨Nat.le_of_ble_eq_true rfl, Nat.le_of_ble_eq_true rfl⟩) (pS hK (va_P_nil) (va_D_nil) hN) rfl rfl hl.1 rfl (lv_room (Nat.le_of_ble_eq_true rfl)) dX6_reads_119 ⟨Nat.le_of_ble_eq_true rfl, Nat.le_of_ble_eq_true rfl⟩) hS (fun q _ h => hFc q h) hFc (fun r_22 u_22 t_22 H23 locs ht hvm hw hB hz1 hk1 hS => ?_)
            obtain ⟨hw, hre24⟩ := hw
            subst hw
            have hP := ro_keep hP hk1
            refine lv_if_eq (tgt := 129) hx hb dX6_reads_122 (by decide) (fun c25 => ?_) (fun c25 => ?_)
            · rw [if_pos c25] at hR
              refine lv_iconst (v := 0) hx hb dX6_reads_129 (by decide) ?_
              refine lv_istore (lv' := [(6, .int 0), (0, .ref (a 0)), (1, .int p1), (2, .int p2), (3, .int x3_14), (4, .int x4_14), (5, .int x5_14)]) hx hb dX6_reads_130 hl (by decide) rfl (fun ls hl => ?_)
              refine lv_aload_n hx hb dX6_reads_132 rfl (lv_at hl 1 rfl) ?_
              refine lv_iload hx hb dX6_reads_133 (lv_at hl 0 rfl) ?_
              refine lv_if_eq (tgt := 145) hx hb dX6_reads_135 (by decide) (fun c26 => ?_) (fun c26 => ?_)
              · refine lv_iload hx hb dX6_reads_145 (lv_at hl 5 rfl) ?_
                refine va_put (D := (dC, dI)) (ci := 6) (v := .int x4_14) (ty := .int) (C := RX6) (T := TX6) (N := 15) hx hb hts hin6 tyX6 tyX6_ok nmX6 hown hK hP hD hS 0 rfl rfl 7 (by decide) (hts (.fieldLink RX6 125 "FeedDeskModel" "next" "I") (List.mem_of_getElem? (i := 1) rfl)) (fun _ h9 => h9) rfl (by decide +kernel) rfl rfl (Nat.le_of_ble_eq_true rfl) dX6_reads_147 (fun H27 locs hP hD hS => ?_)
                have hP : va_P (dC, dI) vwCl (cMd a cI (sU R_14 6 3 x4_14)) H27 := hP
                have hD : va_D (va_A (cMd a cI R) s.heap.size) (cMd a cI (sU R_14 6 3 x4_14)) := hD
                obtain ⟨Rn28, eRn28⟩ : ∃ z : SR, z = sU R_14 6 3 x4_14 := ⟨_, rfl⟩
                rw [sLet_eq, ← eRn28] at hR
                rw [← eRn28] at hP hD
                have ht29 : WFT Rn28 := (by rw [eRn28]; exact fkr_first hf_14)
                have hsk30 : Rn28 0 = R 0 := (by rw [eRn28]; exact hsk_14)
                refine lv_aload_n hx hb dX6_reads_150 rfl (lv_at hl 1 rfl) ?_
                refine lv_iload hx hb dX6_reads_151 (lv_at hl 6 rfl) ?_
                refine va_put (D := (dC, dI)) (ci := 6) (v := .int x5_14) (ty := .int) (C := RX6) (T := TX6) (N := 15) hx hb hts hin6 tyX6 tyX6_ok nmX6 hown hK hP hD hS 0 rfl rfl 8 (by decide) (hts (.fieldLink RX6 132 "FeedDeskModel" "number" "I") (List.mem_of_getElem? (i := 5) rfl)) (fun _ h9 => h9) rfl (by decide +kernel) rfl rfl (Nat.le_of_ble_eq_true rfl) dX6_reads_153 (fun H31 locs hP hD hS => ?_)
                have hP : va_P (dC, dI) vwCl (cMd a cI (sU Rn28 6 4 x5_14)) H31 := hP
                have hD : va_D (va_A (cMd a cI R) s.heap.size) (cMd a cI (sU Rn28 6 4 x5_14)) := hD
                obtain ⟨Rn32, eRn32⟩ : ∃ z : SR, z = sU Rn28 6 4 x5_14 := ⟨_, rfl⟩
                rw [sLet_eq, ← eRn32] at hR
                rw [← eRn32] at hP hD
                have ht33 : WFT Rn32 := (by rw [eRn32]; exact ht29)
                have hsk34 : Rn32 0 = R 0 := (by rw [eRn32]; exact hsk30)
                refine lv_iload hx hb dX6_reads_156 (lv_at hl 0 rfl) ?_
                exact W.zret (v := 0) hx hb hr rfl (fun t ht hWw => ⟨⟨0, Rn32, rfl, ⟨hR.symm.trans eR, ht33, hsk34, (Or.inl rfl), (Or.inl rfl)⟩, by rw [ht]; exact hP, hD⟩, hS.F ht⟩) hS.2.2 dX6_reads_158
              · exact absurd c26 (by decide)
            · rw [if_neg c25] at hR
              refine lv_iconst (v := 1) hx hb dX6_reads_125 (by decide) ?_
              refine lv_goto (tgt := 130) hx hb dX6_reads_126 (by decide) ?_
              refine lv_istore (lv' := [(6, .int 1), (0, .ref (a 0)), (1, .int p1), (2, .int p2), (3, .int x3_14), (4, .int x4_14), (5, .int x5_14)]) hx hb dX6_reads_130 hl (by decide) rfl (fun ls hl => ?_)
              refine lv_aload_n hx hb dX6_reads_132 rfl (lv_at hl 1 rfl) ?_
              refine lv_iload hx hb dX6_reads_133 (lv_at hl 0 rfl) ?_
              refine lv_if_eq (tgt := 145) hx hb dX6_reads_135 (by decide) (fun c35 => ?_) (fun c35 => ?_)
              · exact absurd c35 (by decide)
              · refine lv_aload_n hx hb dX6_reads_138 rfl (lv_at hl 1 rfl) ?_
                refine va_get (D := (dC, dI)) (ci := 6) (v := .int (R_14 6 3)) (C := RX6) (T := TX6) (N := 15) hx hb hts hin6 hown hK hP 0 rfl rfl 7 (by decide) (hts (.fieldLink RX6 125 "FeedDeskModel" "next" "I") (List.mem_of_getElem? (i := 1) rfl)) (fun _ h9 => h9) rfl dX6_reads_139 ?_
                refine lv_goto (tgt := 147) hx hb dX6_reads_142 (by decide) ?_
                refine va_put (D := (dC, dI)) (ci := 6) (v := .int (R_14 6 3)) (ty := .int) (C := RX6) (T := TX6) (N := 15) hx hb hts hin6 tyX6 tyX6_ok nmX6 hown hK hP hD hS 0 rfl rfl 7 (by decide) (hts (.fieldLink RX6 125 "FeedDeskModel" "next" "I") (List.mem_of_getElem? (i := 1) rfl)) (fun _ h9 => h9) rfl (by decide +kernel) rfl rfl (Nat.le_of_ble_eq_true rfl) dX6_reads_147 (fun H36 locs hP hD hS => ?_)
                have hP : va_P (dC, dI) vwCl (cMd a cI (sU R_14 6 3 (R_14 6 3))) H36 := hP
                have hD : va_D (va_A (cMd a cI R) s.heap.size) (cMd a cI (sU R_14 6 3 (R_14 6 3))) := hD
                obtain ⟨Rn37, eRn37⟩ : ∃ z : SR, z = sU R_14 6 3 (R_14 6 3) := ⟨_, rfl⟩
                rw [sLet_eq, ← eRn37] at hR
                rw [← eRn37] at hP hD
                have ht38 : WFT Rn37 := (by rw [eRn37]; exact ht_14)
                have hsk39 : Rn37 0 = R 0 := (by rw [eRn37]; exact hsk_14)
                refine lv_aload_n hx hb dX6_reads_150 rfl (lv_at hl 1 rfl) ?_
                refine lv_iload hx hb dX6_reads_151 (lv_at hl 6 rfl) ?_
                refine va_put (D := (dC, dI)) (ci := 6) (v := .int x5_14) (ty := .int) (C := RX6) (T := TX6) (N := 15) hx hb hts hin6 tyX6 tyX6_ok nmX6 hown hK hP hD hS 0 rfl rfl 8 (by decide) (hts (.fieldLink RX6 132 "FeedDeskModel" "number" "I") (List.mem_of_getElem? (i := 5) rfl)) (fun _ h9 => h9) rfl (by decide +kernel) rfl rfl (Nat.le_of_ble_eq_true rfl) dX6_reads_153 (fun H40 locs hP hD hS => ?_)
                have hP : va_P (dC, dI) vwCl (cMd a cI (sU Rn37 6 4 x5_14)) H40 := hP
                have hD : va_D (va_A (cMd a cI R) s.heap.size) (cMd a cI (sU Rn37 6 4 x5_14)) := hD
                obtain ⟨Rn41, eRn41⟩ : ∃ z : SR, z = sU Rn37 6 4 x5_14 := ⟨_, rfl⟩
                rw [sLet_eq, ← eRn41] at hR
                rw [← eRn41] at hP hD
                have ht42 : WFT Rn41 := (by rw [eRn41]; exact ht38)
                have hsk43 : Rn41 0 = R 0 := (by rw [eRn41]; exact hsk39)
                refine lv_iload hx hb dX6_reads_156 (lv_at hl 0 rfl) ?_
                exact W.zret (v := 1) hx hb hr rfl (fun t ht hWw => ⟨⟨1, Rn41, rfl, ⟨hR.symm.trans eR, ht42, hsk43, (Or.inr (by rw [eRn41]; exact in_split c25)), (Or.inr rfl)⟩, by rw [ht]; exact hP, hD⟩, hS.F ht⟩) hS.2.2 dX6_reads_158
          · rw [if_pos c21] at hR
            refine lv_aload_n hx hb dX6_reads_104 rfl (lv_at hl 0 rfl) ?_
            refine va_get (D := (dC, dI)) (ci := 6) (v := .int (R_14 6 3)) (C := RX6) (T := TX6) (N := 15) hx hb hts hin6 hown hK hP 0 rfl rfl 7 (by decide) (hts (.fieldLink RX6 125 "FeedDeskModel" "next" "I") (List.mem_of_getElem? (i := 1) rfl)) (fun _ h9 => h9) rfl dX6_reads_105 ?_
            refine lv_iload hx hb dX6_reads_108 (lv_at hl 4 rfl) ?_
            refine lv_iconst (v := 1) hx hb dX6_reads_110 (by decide) ?_
            refine lv_iadd hx hb dX6_reads_111 ?_
            refine lv_icmp_ne (tgt := 129) hx hb dX6_reads_112 (by decide) (fun c44 => ?_) (fun c44 => ?_)
            · rw [if_neg c44] at hR
              refine lv_iconst (v := 0) hx hb dX6_reads_129 (by decide) ?_
              refine lv_istore (lv' := [(6, .int 0), (0, .ref (a 0)), (1, .int p1), (2, .int p2), (3, .int x3_14), (4, .int x4_14), (5, .int x5_14)]) hx hb dX6_reads_130 hl (by decide) rfl (fun ls hl => ?_)
              refine lv_aload_n hx hb dX6_reads_132 rfl (lv_at hl 1 rfl) ?_
              refine lv_iload hx hb dX6_reads_133 (lv_at hl 0 rfl) ?_
              refine lv_if_eq (tgt := 145) hx hb dX6_reads_135 (by decide) (fun c45 => ?_) (fun c45 => ?_)
              · refine lv_iload hx hb dX6_reads_145 (lv_at hl 5 rfl) ?_
                refine va_put (D := (dC, dI)) (ci := 6) (v := .int x4_14) (ty := .int) (C := RX6) (T := TX6) (N := 15) hx hb hts hin6 tyX6 tyX6_ok nmX6 hown hK hP hD hS 0 rfl rfl 7 (by decide) (hts (.fieldLink RX6 125 "FeedDeskModel" "next" "I") (List.mem_of_getElem? (i := 1) rfl)) (fun _ h9 => h9) rfl (by decide +kernel) rfl rfl (Nat.le_of_ble_eq_true rfl) dX6_reads_147 (fun H46 locs hP hD hS => ?_)
                have hP : va_P (dC, dI) vwCl (cMd a cI (sU R_14 6 3 x4_14)) H46 := hP
                have hD : va_D (va_A (cMd a cI R) s.heap.size) (cMd a cI (sU R_14 6 3 x4_14)) := hD
                obtain ⟨Rn47, eRn47⟩ : ∃ z : SR, z = sU R_14 6 3 x4_14 := ⟨_, rfl⟩
                rw [sLet_eq, ← eRn47] at hR
                rw [← eRn47] at hP hD
                have ht48 : WFT Rn47 := (by rw [eRn47]; exact fkr_first hf_14)
                have hsk49 : Rn47 0 = R 0 := (by rw [eRn47]; exact hsk_14)
                refine lv_aload_n hx hb dX6_reads_150 rfl (lv_at hl 1 rfl) ?_
                refine lv_iload hx hb dX6_reads_151 (lv_at hl 6 rfl) ?_
                refine va_put (D := (dC, dI)) (ci := 6) (v := .int x5_14) (ty := .int) (C := RX6) (T := TX6) (N := 15) hx hb hts hin6 tyX6 tyX6_ok nmX6 hown hK hP hD hS 0 rfl rfl 8 (by decide) (hts (.fieldLink RX6 132 "FeedDeskModel" "number" "I") (List.mem_of_getElem? (i := 5) rfl)) (fun _ h9 => h9) rfl (by decide +kernel) rfl rfl (Nat.le_of_ble_eq_true rfl) dX6_reads_153 (fun H50 locs hP hD hS => ?_)
                have hP : va_P (dC, dI) vwCl (cMd a cI (sU Rn47 6 4 x5_14)) H50 := hP
                have hD : va_D (va_A (cMd a cI R) s.heap.size) (cMd a cI (sU Rn47 6 4 x5_14)) := hD
                obtain ⟨Rn51, eRn51⟩ : ∃ z : SR, z = sU Rn47 6 4 x5_14 := ⟨_, rfl⟩
                rw [sLet_eq, ← eRn51] at hR
                rw [← eRn51] at hP hD
                have ht52 : WFT Rn51 := (by rw [eRn51]; exact ht48)
                have hsk53 : Rn51 0 = R 0 := (by rw [eRn51]; exact hsk49)
                refine lv_iload hx hb dX6_reads_156 (lv_at hl 0 rfl) ?_
                exact W.zret (v := 0) hx hb hr rfl (fun t ht hWw => ⟨⟨0, Rn51, rfl, ⟨hR.symm.trans eR, ht52, hsk53, (Or.inl rfl), (Or.inl rfl)⟩, by rw [ht]; exact hP, hD⟩, hS.F ht⟩) hS.2.2 dX6_reads_158
              · exact absurd c45 (by decide)
            · rw [if_pos c44] at hR
              refine lv_iload hx hb dX6_reads_115 (lv_at hl 5 rfl) ?_
              refine lv_iload_n hx hb dX6_reads_117 rfl (lv_at hl 1 rfl) ?_
              refine lv_iload_n hx hb dX6_reads_118 rfl (lv_at hl 2 rfl) ?_
              have hFc : ∀ q : Nat, va_A [] H.size q → (va_A (cMd a cI R) s.heap.size) q := roF hS hA
              refine va_calli (va_runS (As := [.int x5_14, .int p1, .int p2]) (rest := []) ⟨hx, hb, hml, hown, hts⟩ (c_X6_in l dC dI cI cC cS H.size x5_14 p1 p2) (va_cwS 3 hts gX6_reads_X6_in rfl rfl rfl (by decide +kernel) ⟨Nat.le_of_ble_eq_true rfl, Nat.le_of_ble_eq_true rfl⟩) (pS hK (va_P_nil) (va_D_nil) hN) rfl rfl hl.1 rfl (lv_room (Nat.le_of_ble_eq_true rfl)) dX6_reads_119 ⟨Nat.le_of_ble_eq_true rfl, Nat.le_of_ble_eq_true rfl⟩) hS (fun q _ h => hFc q h) hFc (fun r_54 u_54 t_54 H55 locs ht hvm hw hB hz1 hk1 hS => ?_)
              obtain ⟨hw, hre56⟩ := hw
              subst hw
              have hP := ro_keep hP hk1
              refine lv_if_eq (tgt := 129) hx hb dX6_reads_122 (by decide) (fun c57 => ?_) (fun c57 => ?_)
              · rw [if_pos c57] at hR
                refine lv_iconst (v := 0) hx hb dX6_reads_129 (by decide) ?_
                refine lv_istore (lv' := [(6, .int 0), (0, .ref (a 0)), (1, .int p1), (2, .int p2), (3, .int x3_14), (4, .int x4_14), (5, .int x5_14)]) hx hb dX6_reads_130 hl (by decide) rfl (fun ls hl => ?_)
                refine lv_aload_n hx hb dX6_reads_132 rfl (lv_at hl 1 rfl) ?_
                refine lv_iload hx hb dX6_reads_133 (lv_at hl 0 rfl) ?_
                refine lv_if_eq (tgt := 145) hx hb dX6_reads_135 (by decide) (fun c58 => ?_) (fun c58 => ?_)
                · refine lv_iload hx hb dX6_reads_145 (lv_at hl 5 rfl) ?_
                  refine va_put (D := (dC, dI)) (ci := 6) (v := .int x4_14) (ty := .int) (C := RX6) (T := TX6) (N := 15) hx hb hts hin6 tyX6 tyX6_ok nmX6 hown hK hP hD hS 0 rfl rfl 7 (by decide) (hts (.fieldLink RX6 125 "FeedDeskModel" "next" "I") (List.mem_of_getElem? (i := 1) rfl)) (fun _ h9 => h9) rfl (by decide +kernel) rfl rfl (Nat.le_of_ble_eq_true rfl) dX6_reads_147 (fun H59 locs hP hD hS => ?_)
                  have hP : va_P (dC, dI) vwCl (cMd a cI (sU R_14 6 3 x4_14)) H59 := hP
                  have hD : va_D (va_A (cMd a cI R) s.heap.size) (cMd a cI (sU R_14 6 3 x4_14)) := hD
                  obtain ⟨Rn60, eRn60⟩ : ∃ z : SR, z = sU R_14 6 3 x4_14 := ⟨_, rfl⟩
                  rw [sLet_eq, ← eRn60] at hR
                  rw [← eRn60] at hP hD
                  have ht61 : WFT Rn60 := (by rw [eRn60]; exact fkr_first hf_14)
                  have hsk62 : Rn60 0 = R 0 := (by rw [eRn60]; exact hsk_14)
                  refine lv_aload_n hx hb dX6_reads_150 rfl (lv_at hl 1 rfl) ?_
                  refine lv_iload hx hb dX6_reads_151 (lv_at hl 6 rfl) ?_
                  refine va_put (D := (dC, dI)) (ci := 6) (v := .int x5_14) (ty := .int) (C := RX6) (T := TX6) (N := 15) hx hb hts hin6 tyX6 tyX6_ok nmX6 hown hK hP hD hS 0 rfl rfl 8 (by decide) (hts (.fieldLink RX6 132 "FeedDeskModel" "number" "I") (List.mem_of_getElem? (i := 5) rfl)) (fun _ h9 => h9) rfl (by decide +kernel) rfl rfl (Nat.le_of_ble_eq_true rfl) dX6_reads_153 (fun H63 locs hP hD hS => ?_)
                  have hP : va_P (dC, dI) vwCl (cMd a cI (sU Rn60 6 4 x5_14)) H63 := hP
                  have hD : va_D (va_A (cMd a cI R) s.heap.size) (cMd a cI (sU Rn60 6 4 x5_14)) := hD
                  obtain ⟨Rn64, eRn64⟩ : ∃ z : SR, z = sU Rn60 6 4 x5_14 := ⟨_, rfl⟩
                  rw [sLet_eq, ← eRn64] at hR
                  rw [← eRn64] at hP hD
                  have ht65 : WFT Rn64 := (by rw [eRn64]; exact ht61)
                  have hsk66 : Rn64 0 = R 0 := (by rw [eRn64]; exact hsk62)
                  refine lv_iload hx hb dX6_reads_156 (lv_at hl 0 rfl) ?_
                  exact W.zret (v := 0) hx hb hr rfl (fun t ht hWw => ⟨⟨0, Rn64, rfl, ⟨hR.symm.trans eR, ht65, hsk66, (Or.inl rfl), (Or.inl rfl)⟩, by rw [ht]; exact hP, hD⟩, hS.F ht⟩) hS.2.2 dX6_reads_158
                · exact absurd c58 (by decide)
              · rw [if_neg c57] at hR
                refine lv_iconst (v := 1) hx hb dX6_reads_125 (by decide) ?_
                refine lv_goto (tgt := 130) hx hb dX6_reads_126 (by decide) ?_
                refine lv_istore (lv' := [(6, .int 1), (0, .ref (a 0)), (1, .int p1), (2, .int p2), (3, .int x3_14), (4, .int x4_14), (5, .int x5_14)]) hx hb dX6_reads_130 hl (by decide) rfl (fun ls hl => ?_)
                refine lv_aload_n hx hb dX6_reads_132 rfl (lv_at hl 1 rfl) ?_
                refine lv_iload hx hb dX6_reads_133 (lv_at hl 0 rfl) ?_
                refine lv_if_eq (tgt := 145) hx hb dX6_reads_135 (by decide) (fun c67 => ?_) (fun c67 => ?_)
                · exact absurd c67 (by decide)
                · refine lv_aload_n hx hb dX6_reads_138 rfl (lv_at hl 1 rfl) ?_
                  refine va_get (D := (dC, dI)) (ci := 6) (v := .int (R_14 6 3)) (C := RX6) (T := TX6) (N := 15) hx hb hts hin6 hown hK hP 0 rfl rfl 7 (by decide) (hts (.fieldLink RX6 125 "FeedDeskModel" "next" "I") (List.mem_of_getElem? (i := 1) rfl)) (fun _ h9 => h9) rfl dX6_reads_139 ?_
                  refine lv_goto (tgt := 147) hx hb dX6_reads_142 (by decide) ?_
                  refine va_put (D := (dC, dI)) (ci := 6) (v := .int (R_14 6 3)) (ty := .int) (C := RX6) (T := TX6) (N := 15) hx hb hts hin6 tyX6 tyX6_ok nmX6 hown hK hP hD hS 0 rfl rfl 7 (by decide) (hts (.fieldLink RX6 125 "FeedDeskModel" "next" "I") (List.mem_of_getElem? (i := 1) rfl)) (fun _ h9 => h9) rfl (by decide +kernel) rfl rfl (Nat.le_of_ble_eq_true rfl) dX6_reads_147 (fun H68 locs hP hD hS => ?_)
                  have hP : va_P (dC, dI) vwCl (cMd a cI (sU R_14 6 3 (R_14 6 3))) H68 := hP
                  have hD : va_D (va_A (cMd a cI R) s.heap.size) (cMd a cI (sU R_14 6 3 (R_14 6 3))) := hD
                  obtain ⟨Rn69, eRn69⟩ : ∃ z : SR, z = sU R_14 6 3 (R_14 6 3) := ⟨_, rfl⟩
                  rw [sLet_eq, ← eRn69] at hR
                  rw [← eRn69] at hP hD
                  have ht70 : WFT Rn69 := (by rw [eRn69]; exact ht_14)
                  have hsk71 : Rn69 0 = R 0 := (by rw [eRn69]; exact hsk_14)
                  refine lv_aload_n hx hb dX6_reads_150 rfl (lv_at hl 1 rfl) ?_
                  refine lv_iload hx hb dX6_reads_151 (lv_at hl 6 rfl) ?_
                  refine va_put (D := (dC, dI)) (ci := 6) (v := .int x5_14) (ty := .int) (C := RX6) (T := TX6) (N := 15) hx hb hts hin6 tyX6 tyX6_ok nmX6 hown hK hP hD hS 0 rfl rfl 8 (by decide) (hts (.fieldLink RX6 132 "FeedDeskModel" "number" "I") (List.mem_of_getElem? (i := 5) rfl)) (fun _ h9 => h9) rfl (by decide +kernel) rfl rfl (Nat.le_of_ble_eq_true rfl) dX6_reads_153 (fun H72 locs hP hD hS => ?_)
                  have hP : va_P (dC, dI) vwCl (cMd a cI (sU Rn69 6 4 x5_14)) H72 := hP
                  have hD : va_D (va_A (cMd a cI R) s.heap.size) (cMd a cI (sU Rn69 6 4 x5_14)) := hD
                  obtain ⟨Rn73, eRn73⟩ : ∃ z : SR, z = sU Rn69 6 4 x5_14 := ⟨_, rfl⟩
                  rw [sLet_eq, ← eRn73] at hR
                  rw [← eRn73] at hP hD
                  have ht74 : WFT Rn73 := (by rw [eRn73]; exact ht70)
                  have hsk75 : Rn73 0 = R 0 := (by rw [eRn73]; exact hsk71)
                  refine lv_iload hx hb dX6_reads_156 (lv_at hl 0 rfl) ?_
                  exact W.zret (v := 1) hx hb hr rfl (fun t ht hWw => ⟨⟨1, Rn73, rfl, ⟨hR.symm.trans eR, ht74, hsk75, (Or.inr (by rw [eRn73]; exact in_split c57)), (Or.inr rfl)⟩, by rw [ht]; exact hP, hD⟩, hS.F ht⟩) hS.2.2 dX6_reads_158
      · rw [if_neg c10] at hR
        refine lv_aload_n hx hb dX6_reads_25 rfl (lv_at hl 0 rfl) ?_
        refine va_get (D := (dC, dI)) (ci := 6) (v := .ref (a 4)) (C := RX6) (T := TX6) (N := 15) hx hb hts hin6 hown hK hP 0 rfl rfl 5 (by decide) (hts (.fieldLink RX6 19 "FeedDeskModel" "text" "[I") (List.mem_of_getElem? (i := 3) rfl)) (fun _ h9 => h9) rfl dX6_reads_26 ?_
        refine lv_aload_n hx hb dX6_reads_29 rfl (lv_at hl 0 rfl) ?_
        refine va_get (D := (dC, dI)) (ci := 6) (v := .int (R_14 6 3)) (C := RX6) (T := TX6) (N := 15) hx hb hts hin6 hown hK hP 0 rfl rfl 7 (by decide) (hts (.fieldLink RX6 125 "FeedDeskModel" "next" "I") (List.mem_of_getElem? (i := 1) rfl)) (fun _ h9 => h9) rfl dX6_reads_30 ?_
        refine va_iald (f := R_14 3) hx hb hK hP 4 0 rfl rfl (wft_in ht_14 c10) dX6_reads_33 ?_
        refine lv_bipush (v := 48) hx hb dX6_reads_34 (by decide) ?_
        refine lv_bipush (v := 57) hx hb dX6_reads_36 (by decide) ?_
        have hFc : ∀ q : Nat, va_A [] H.size q → (va_A (cMd a cI R) s.heap.size) q := roF hS hA
        refine va_calli (va_runS (As := [.int (R_14 3 (R_14 6 3).toNatClampNeg), .int 48, .int 57]) (rest := []) ⟨hx, hb, hml, hown, hts⟩ (c_X6_in l dC dI cI cC cS H.size (R_14 3 (R_14 6 3).toNatClampNeg) 48 57) (va_cwS 3 hts gX6_reads_X6_in rfl rfl rfl (by decide +kernel) ⟨Nat.le_of_ble_eq_true rfl, Nat.le_of_ble_eq_true rfl⟩) (pS hK (va_P_nil) (va_D_nil) hN) rfl rfl hl.1 rfl (lv_room (Nat.le_of_ble_eq_true rfl)) dX6_reads_38 ⟨Nat.le_of_ble_eq_true rfl, Nat.le_of_ble_eq_true rfl⟩) hS (fun q _ h => hFc q h) hFc (fun r_76 u_76 t_76 H77 locs ht hvm hw hB hz1 hk1 hS => ?_)
        obtain ⟨hw, hre78⟩ := hw
        subst hw
        have hP := ro_keep hP hk1
        refine lv_if_eq (tgt := 89) hx hb dX6_reads_41 (by decide) (fun c79 => ?_) (fun c79 => ?_)
        · rw [if_pos c79] at hR
          refine lv_aload_n hx hb dX6_reads_89 rfl (lv_at hl 0 rfl) ?_
          refine va_get (D := (dC, dI)) (ci := 6) (v := .int (R_14 6 3)) (C := RX6) (T := TX6) (N := 15) hx hb hts hin6 hown hK hP 0 rfl rfl 7 (by decide) (hts (.fieldLink RX6 125 "FeedDeskModel" "next" "I") (List.mem_of_getElem? (i := 1) rfl)) (fun _ h9 => h9) rfl dX6_reads_90 ?_
          refine lv_iload hx hb dX6_reads_93 (lv_at hl 4 rfl) ?_
          refine lv_icmp_le (tgt := 129) hx hb dX6_reads_95 (by decide) (fun c80 => ?_) (fun c80 => ?_)
          · rw [if_pos c80] at hR
            refine lv_iconst (v := 0) hx hb dX6_reads_129 (by decide) ?_
            refine lv_istore (lv' := [(6, .int 0), (0, .ref (a 0)), (1, .int p1), (2, .int p2), (3, .int x3_14), (4, .int x4_14), (5, .int x5_14)]) hx hb dX6_reads_130 hl (by decide) rfl (fun ls hl => ?_)
            refine lv_aload_n hx hb dX6_reads_132 rfl (lv_at hl 1 rfl) ?_
            refine lv_iload hx hb dX6_reads_133 (lv_at hl 0 rfl) ?_
            refine lv_if_eq (tgt := 145) hx hb dX6_reads_135 (by decide) (fun c81 => ?_) (fun c81 => ?_)
            · refine lv_iload hx hb dX6_reads_145 (lv_at hl 5 rfl) ?_
              refine va_put (D := (dC, dI)) (ci := 6) (v := .int x4_14) (ty := .int) (C := RX6) (T := TX6) (N := 15) hx hb hts hin6 tyX6 tyX6_ok nmX6 hown hK hP hD hS 0 rfl rfl 7 (by decide) (hts (.fieldLink RX6 125 "FeedDeskModel" "next" "I") (List.mem_of_getElem? (i := 1) rfl)) (fun _ h9 => h9) rfl (by decide +kernel) rfl rfl (Nat.le_of_ble_eq_true rfl) dX6_reads_147 (fun H82 locs hP hD hS => ?_)
              have hP : va_P (dC, dI) vwCl (cMd a cI (sU R_14 6 3 x4_14)) H82 := hP
              have hD : va_D (va_A (cMd a cI R) s.heap.size) (cMd a cI (sU R_14 6 3 x4_14)) := hD
              obtain ⟨Rn83, eRn83⟩ : ∃ z : SR, z = sU R_14 6 3 x4_14 := ⟨_, rfl⟩
              rw [sLet_eq, ← eRn83] at hR
              rw [← eRn83] at hP hD
              have ht84 : WFT Rn83 := (by rw [eRn83]; exact fkr_first hf_14)
              have hsk85 : Rn83 0 = R 0 := (by rw [eRn83]; exact hsk_14)
              refine lv_aload_n hx hb dX6_reads_150 rfl (lv_at hl 1 rfl) ?_
              refine lv_iload hx hb dX6_reads_151 (lv_at hl 6 rfl) ?_
              refine va_put (D := (dC, dI)) (ci := 6) (v := .int x5_14) (ty := .int) (C := RX6) (T := TX6) (N := 15) hx hb hts hin6 tyX6 tyX6_ok nmX6 hown hK hP hD hS 0 rfl rfl 8 (by decide) (hts (.fieldLink RX6 132 "FeedDeskModel" "number" "I") (List.mem_of_getElem? (i := 5) rfl)) (fun _ h9 => h9) rfl (by decide +kernel) rfl rfl (Nat.le_of_ble_eq_true rfl) dX6_reads_153 (fun H86 locs hP hD hS => ?_)
              have hP : va_P (dC, dI) vwCl (cMd a cI (sU Rn83 6 4 x5_14)) H86 := hP
              have hD : va_D (va_A (cMd a cI R) s.heap.size) (cMd a cI (sU Rn83 6 4 x5_14)) := hD
              obtain ⟨Rn87, eRn87⟩ : ∃ z : SR, z = sU Rn83 6 4 x5_14 := ⟨_, rfl⟩
              rw [sLet_eq, ← eRn87] at hR
              rw [← eRn87] at hP hD
              have ht88 : WFT Rn87 := (by rw [eRn87]; exact ht84)
              have hsk89 : Rn87 0 = R 0 := (by rw [eRn87]; exact hsk85)
              refine lv_iload hx hb dX6_reads_156 (lv_at hl 0 rfl) ?_
              exact W.zret (v := 0) hx hb hr rfl (fun t ht hWw => ⟨⟨0, Rn87, rfl, ⟨hR.symm.trans eR, ht88, hsk89, (Or.inl rfl), (Or.inl rfl)⟩, by rw [ht]; exact hP, hD⟩, hS.F ht⟩) hS.2.2 dX6_reads_158
            · exact absurd c81 (by decide)
          · rw [if_neg c80] at hR
            refine lv_iload_n hx hb dX6_reads_98 rfl (lv_at hl 3 rfl) ?_
            refine lv_bipush (v := 48) hx hb dX6_reads_99 (by decide) ?_
            refine lv_icmp_ne (tgt := 115) hx hb dX6_reads_101 (by decide) (fun c90 => ?_) (fun c90 => ?_)
            · rw [if_neg c90] at hR
              refine lv_iload hx hb dX6_reads_115 (lv_at hl 5 rfl) ?_
              refine lv_iload_n hx hb dX6_reads_117 rfl (lv_at hl 1 rfl) ?_
              refine lv_iload_n hx hb dX6_reads_118 rfl (lv_at hl 2 rfl) ?_
              have hFc : ∀ q : Nat, va_A [] H77.size q → (va_A (cMd a cI R) s.heap.size) q := roF hS hA
              refine va_calli (va_runS (As := [.int x5_14, .int p1, .int p2]) (rest := []) ⟨hx, hb, hml, hown, hts⟩ (c_X6_in l dC dI cI cC cS H77.size x5_14 p1 p2) (va_cwS 3 hts gX6_reads_X6_in rfl rfl rfl (by decide +kernel) ⟨Nat.le_of_ble_eq_true rfl, Nat.le_of_ble_eq_true rfl⟩) (pS hK (va_P_nil) (va_D_nil) hN) rfl rfl hl.1 rfl (lv_room (Nat.le_of_ble_eq_true rfl)) dX6_reads_119 ⟨Nat.le_of_ble_eq_true rfl, Nat.le_of_ble_eq_true rfl⟩) hS (fun q _ h => hFc q h) hFc (fun r_91 u_91 t_91 H92 locs ht hvm hw hB hz1 hk1 hS => ?_)
              obtain ⟨hw, hre93⟩ := hw
              subst hw
              have hP := ro_keep hP hk1
              refine lv_if_eq (tgt := 129) hx hb dX6_reads_122 (by decide) (fun c94 => ?_) (fun c94 => ?_)
              · rw [if_pos c94] at hR
                refine lv_iconst (v := 0) hx hb dX6_reads_129 (by decide) ?_
                refine lv_istore (lv' := [(6, .int 0), (0, .ref (a 0)), (1, .int p1), (2, .int p2), (3, .int x3_14), (4, .int x4_14), (5, .int x5_14)]) hx hb dX6_reads_130 hl (by decide) rfl (fun ls hl => ?_)
                refine lv_aload_n hx hb dX6_reads_132 rfl (lv_at hl 1 rfl) ?_
                refine lv_iload hx hb dX6_reads_133 (lv_at hl 0 rfl) ?_
                refine lv_if_eq (tgt := 145) hx hb dX6_reads_135 (by decide) (fun c95 => ?_) (fun c95 => ?_)
                · refine lv_iload hx hb dX6_reads_145 (lv_at hl 5 rfl) ?_
                  refine va_put (D := (dC, dI)) (ci := 6) (v := .int x4_14) (ty := .int) (C := RX6) (T := TX6) (N := 15) hx hb hts hin6 tyX6 tyX6_ok nmX6 hown hK hP hD hS 0 rfl rfl 7 (by decide) (hts (.fieldLink RX6 125 "FeedDeskModel" "next" "I") (List.mem_of_getElem? (i := 1) rfl)) (fun _ h9 => h9) rfl (by decide +kernel) rfl rfl (Nat.le_of_ble_eq_true rfl) dX6_reads_147 (fun H96 locs hP hD hS => ?_)
                  have hP : va_P (dC, dI) vwCl (cMd a cI (sU R_14 6 3 x4_14)) H96 := hP
                  have hD : va_D (va_A (cMd a cI R) s.heap.size) (cMd a cI (sU R_14 6 3 x4_14)) := hD
                  obtain ⟨Rn97, eRn97⟩ : ∃ z : SR, z = sU R_14 6 3 x4_14 := ⟨_, rfl⟩
                  rw [sLet_eq, ← eRn97] at hR
                  rw [← eRn97] at hP hD
                  have ht98 : WFT Rn97 := (by rw [eRn97]; exact fkr_first hf_14)
                  have hsk99 : Rn97 0 = R 0 := (by rw [eRn97]; exact hsk_14)
                  refine lv_aload_n hx hb dX6_reads_150 rfl (lv_at hl 1 rfl) ?_
                  refine lv_iload hx hb dX6_reads_151 (lv_at hl 6 rfl) ?_
                  refine va_put (D := (dC, dI)) (ci := 6) (v := .int x5_14) (ty := .int) (C := RX6) (T := TX6) (N := 15) hx hb hts hin6 tyX6 tyX6_ok nmX6 hown hK hP hD hS 0 rfl rfl 8 (by decide) (hts (.fieldLink RX6 132 "FeedDeskModel" "number" "I") (List.mem_of_getElem? (i := 5) rfl)) (fun _ h9 => h9) rfl (by decide +kernel) rfl rfl (Nat.le_of_ble_eq_true rfl) dX6_reads_153 (fun H100 locs hP hD hS => ?_)
                  have hP : va_P (dC, dI) vwCl (cMd a cI (sU Rn97 6 4 x5_14)) H100 := hP
                  have hD : va_D (va_A (cMd a cI R) s.heap.size) (cMd a cI (sU Rn97 6 4 x5_14)) := hD
                  obtain ⟨Rn101, eRn101⟩ : ∃ z : SR, z = sU Rn97 6 4 x5_14 := ⟨_, rfl⟩
                  rw [sLet_eq, ← eRn101] at hR
                  rw [← eRn101] at hP hD
                  have ht102 : WFT Rn101 := (by rw [eRn101]; exact ht98)
                  have hsk103 : Rn101 0 = R 0 := (by rw [eRn101]; exact hsk99)
                  refine lv_iload hx hb dX6_reads_156 (lv_at hl 0 rfl) ?_
                  exact W.zret (v := 0) hx hb hr rfl (fun t ht hWw => ⟨⟨0, Rn101, rfl, ⟨hR.symm.trans eR, ht102, hsk103, (Or.inl rfl), (Or.inl rfl)⟩, by rw [ht]; exact hP, hD⟩, hS.F ht⟩) hS.2.2 dX6_reads_158
                · exact absurd c95 (by decide)
              · rw [if_neg c94] at hR
                refine lv_iconst (v := 1) hx hb dX6_reads_125 (by decide) ?_
                refine lv_goto (tgt := 130) hx hb dX6_reads_126 (by decide) ?_
                refine lv_istore (lv' := [(6, .int 1), (0, .ref (a 0)), (1, .int p1), (2, .int p2), (3, .int x3_14), (4, .int x4_14), (5, .int x5_14)]) hx hb dX6_reads_130 hl (by decide) rfl (fun ls hl => ?_)
                refine lv_aload_n hx hb dX6_reads_132 rfl (lv_at hl 1 rfl) ?_
                refine lv_iload hx hb dX6_reads_133 (lv_at hl 0 rfl) ?_
                refine lv_if_eq (tgt := 145) hx hb dX6_reads_135 (by decide) (fun c104 => ?_) (fun c104 => ?_)
                · exact absurd c104 (by decide)
                · refine lv_aload_n hx hb dX6_reads_138 rfl (lv_at hl 1 rfl) ?_
                  refine va_get (D := (dC, dI)) (ci := 6) (v := .int (R_14 6 3)) (C := RX6) (T := TX6) (N := 15) hx hb hts hin6 hown hK hP 0 rfl rfl 7 (by decide) (hts (.fieldLink RX6 125 "FeedDeskModel" "next" "I") (List.mem_of_getElem? (i := 1) rfl)) (fun _ h9 => h9) rfl dX6_reads_139 ?_
                  refine lv_goto (tgt := 147) hx hb dX6_reads_142 (by decide) ?_
                  refine va_put (D := (dC, dI)) (ci := 6) (v := .int (R_14 6 3)) (ty := .int) (C := RX6) (T := TX6) (N := 15) hx hb hts hin6 tyX6 tyX6_ok nmX6 hown hK hP hD hS 0 rfl rfl 7 (by decide) (hts (.fieldLink RX6 125 "FeedDeskModel" "next" "I") (List.mem_of_getElem? (i := 1) rfl)) (fun _ h9 => h9) rfl (by decide +kernel) rfl rfl (Nat.le_of_ble_eq_true rfl) dX6_reads_147 (fun H105 locs hP hD hS => ?_)
                  have hP : va_P (dC, dI) vwCl (cMd a cI (sU R_14 6 3 (R_14 6 3))) H105 := hP
                  have hD : va_D (va_A (cMd a cI R) s.heap.size) (cMd a cI (sU R_14 6 3 (R_14 6 3))) := hD
                  obtain ⟨Rn106, eRn106⟩ : ∃ z : SR, z = sU R_14 6 3 (R_14 6 3) := ⟨_, rfl⟩
                  rw [sLet_eq, ← eRn106] at hR
                  rw [← eRn106] at hP hD
                  have ht107 : WFT Rn106 := (by rw [eRn106]; exact ht_14)
                  have hsk108 : Rn106 0 = R 0 := (by rw [eRn106]; exact hsk_14)
                  refine lv_aload_n hx hb dX6_reads_150 rfl (lv_at hl 1 rfl) ?_
                  refine lv_iload hx hb dX6_reads_151 (lv_at hl 6 rfl) ?_
                  refine va_put (D := (dC, dI)) (ci := 6) (v := .int x5_14) (ty := .int) (C := RX6) (T := TX6) (N := 15) hx hb hts hin6 tyX6 tyX6_ok nmX6 hown hK hP hD hS 0 rfl rfl 8 (by decide) (hts (.fieldLink RX6 132 "FeedDeskModel" "number" "I") (List.mem_of_getElem? (i := 5) rfl)) (fun _ h9 => h9) rfl (by decide +kernel) rfl rfl (Nat.le_of_ble_eq_true rfl) dX6_reads_153 (fun H109 locs hP hD hS => ?_)
                  have hP : va_P (dC, dI) vwCl (cMd a cI (sU Rn106 6 4 x5_14)) H109 := hP
                  have hD : va_D (va_A (cMd a cI R) s.heap.size) (cMd a cI (sU Rn106 6 4 x5_14)) := hD
                  obtain ⟨Rn110, eRn110⟩ : ∃ z : SR, z = sU Rn106 6 4 x5_14 := ⟨_, rfl⟩
                  rw [sLet_eq, ← eRn110] at hR
                  rw [← eRn110] at hP hD
                  have ht111 : WFT Rn110 := (by rw [eRn110]; exact ht107)
                  have hsk112 : Rn110 0 = R 0 := (by rw [eRn110]; exact hsk108)
                  refine lv_iload hx hb dX6_reads_156 (lv_at hl 0 rfl) ?_
                  exact W.zret (v := 1) hx hb hr rfl (fun t ht hWw => ⟨⟨1, Rn110, rfl, ⟨hR.symm.trans eR, ht111, hsk112, (Or.inr (by rw [eRn110]; exact in_split c94)), (Or.inr rfl)⟩, by rw [ht]; exact hP, hD⟩, hS.F ht⟩) hS.2.2 dX6_reads_158
            · rw [if_pos c90] at hR
              refine lv_aload_n hx hb dX6_reads_104 rfl (lv_at hl 0 rfl) ?_
              refine va_get (D := (dC, dI)) (ci := 6) (v := .int (R_14 6 3)) (C := RX6) (T := TX6) (N := 15) hx hb hts hin6 hown hK hP 0 rfl rfl 7 (by decide) (hts (.fieldLink RX6 125 "FeedDeskModel" "next" "I") (List.mem_of_getElem? (i := 1) rfl)) (fun _ h9 => h9) rfl dX6_reads_105 ?_
              refine lv_iload hx hb dX6_reads_108 (lv_at hl 4 rfl) ?_
              refine lv_iconst (v := 1) hx hb dX6_reads_110 (by decide) ?_
              refine lv_iadd hx hb dX6_reads_111 ?_
              refine lv_icmp_ne (tgt := 129) hx hb dX6_reads_112 (by decide) (fun c113 => ?_) (fun c113 => ?_)
              · rw [if_neg c113] at hR
                refine lv_iconst (v := 0) hx hb dX6_reads_129 (by decide) ?_
                refine lv_istore (lv' := [(6, .int 0), (0, .ref (a 0)), (1, .int p1), (2, .int p2), (3, .int x3_14), (4, .int x4_14), (5, .int x5_14)]) hx hb dX6_reads_130 hl (by decide) rfl (fun ls hl => ?_)
                refine lv_aload_n hx hb dX6_reads_132 rfl (lv_at hl 1 rfl) ?_
                refine lv_iload hx hb dX6_reads_133 (lv_at hl 0 rfl) ?_
                refine lv_if_eq (tgt := 145) hx hb dX6_reads_135 (by decide) (fun c114 => ?_) (fun c114 => ?_)
                · refine lv_iload hx hb dX6_reads_145 (lv_at hl 5 rfl) ?_
                  refine va_put (D := (dC, dI)) (ci := 6) (v := .int x4_14) (ty := .int) (C := RX6) (T := TX6) (N := 15) hx hb hts hin6 tyX6 tyX6_ok nmX6 hown hK hP hD hS 0 rfl rfl 7 (by decide) (hts (.fieldLink RX6 125 "FeedDeskModel" "next" "I") (List.mem_of_getElem? (i := 1) rfl)) (fun _ h9 => h9) rfl (by decide +kernel) rfl rfl (Nat.le_of_ble_eq_true rfl) dX6_reads_147 (fun H115 locs hP hD hS => ?_)
                  have hP : va_P (dC, dI) vwCl (cMd a cI (sU R_14 6 3 x4_14)) H115 := hP
                  have hD : va_D (va_A (cMd a cI R) s.heap.size) (cMd a cI (sU R_14 6 3 x4_14)) := hD
                  obtain ⟨Rn116, eRn116⟩ : ∃ z : SR, z = sU R_14 6 3 x4_14 := ⟨_, rfl⟩
                  rw [sLet_eq, ← eRn116] at hR
                  rw [← eRn116] at hP hD
                  have ht117 : WFT Rn116 := (by rw [eRn116]; exact fkr_first hf_14)
                  have hsk118 : Rn116 0 = R 0 := (by rw [eRn116]; exact hsk_14)
                  refine lv_aload_n hx hb dX6_reads_150 rfl (lv_at hl 1 rfl) ?_
                  refine lv_iload hx hb dX6_reads_151 (lv_at hl 6 rfl) ?_
                  refine va_put (D := (dC, dI)) (ci := 6) (v := .int x5_14) (ty := .int) (C := RX6) (T := TX6) (N := 15) hx hb hts hin6 tyX6 tyX6_ok nmX6 hown hK hP hD hS 0 rfl rfl 8 (by decide) (hts (.fieldLink RX6 132 "FeedDeskModel" "number" "I") (List.mem_of_getElem? (i := 5) rfl)) (fun _ h9 => h9) rfl (by decide +kernel) rfl rfl (Nat.le_of_ble_eq_true rfl) dX6_reads_153 (fun H119 locs hP hD hS => ?_)
                  have hP : va_P (dC, dI) vwCl (cMd a cI (sU Rn116 6 4 x5_14)) H119 := hP
                  have hD : va_D (va_A (cMd a cI R) s.heap.size) (cMd a cI (sU Rn116 6 4 x5_14)) := hD
                  obtain ⟨Rn120, eRn120⟩ : ∃ z : SR, z = sU Rn116 6 4 x5_14 := ⟨_, rfl⟩
                  rw [sLet_eq, ← eRn120] at hR
                  rw [← eRn120] at hP hD
                  have ht121 : WFT Rn120 := (by rw [eRn120]; exact ht117)
                  have hsk122 : Rn120 0 = R 0 := (by rw [eRn120]; exact hsk118)
                  refine lv_iload hx hb dX6_reads_156 (lv_at hl 0 rfl) ?_
                  exact W.zret (v := 0) hx hb hr rfl (fun t ht hWw => ⟨⟨0, Rn120, rfl, ⟨hR.symm.trans eR, ht121, hsk122, (Or.inl rfl), (Or.inl rfl)⟩, by rw [ht]; exact hP, hD⟩, hS.F ht⟩) hS.2.2 dX6_reads_158
                · exact absurd c114 (by decide)
              · rw [if_pos c113] at hR
                refine lv_iload hx hb dX6_reads_115 (lv_at hl 5 rfl) ?_
                refine lv_iload_n hx hb dX6_reads_117 rfl (lv_at hl 1 rfl) ?_
                refine lv_iload_n hx hb dX6_reads_118 rfl (lv_at hl 2 rfl) ?_
                have hFc : ∀ q : Nat, va_A [] H77.size q → (va_A (cMd a cI R) s.heap.size) q := roF hS hA
                refine va_calli (va_runS (As := [.int x5_14, .int p1, .int p2]) (rest := []) ⟨hx, hb, hml, hown, hts⟩ (c_X6_in l dC dI cI cC cS H77.size x5_14 p1 p2) (va_cwS 3 hts gX6_reads_X6_in rfl rfl rfl (by decide +kernel) ⟨Nat.le_of_ble_eq_true rfl, Nat.le_of_ble_eq_true rfl⟩) (pS hK (va_P_nil) (va_D_nil) hN) rfl rfl hl.1 rfl (lv_room (Nat.le_of_ble_eq_true rfl)) dX6_reads_119 ⟨Nat.le_of_ble_eq_true rfl, Nat.le_of_ble_eq_true rfl⟩) hS (fun q _ h => hFc q h) hFc (fun r_123 u_123 t_123 H124 locs ht hvm hw hB hz1 hk1 hS => ?_)
                obtain ⟨hw, hre125⟩ := hw
                subst hw
                have hP := ro_keep hP hk1
                refine lv_if_eq (tgt := 129) hx hb dX6_reads_122 (by decide) (fun c126 => ?_) (fun c126 => ?_)
                · rw [if_pos c126] at hR
                  refine lv_iconst (v := 0) hx hb dX6_reads_129 (by decide) ?_
                  refine lv_istore (lv' := [(6, .int 0), (0, .ref (a 0)), (1, .int p1), (2, .int p2), (3, .int x3_14), (4, .int x4_14), (5, .int x5_14)]) hx hb dX6_reads_130 hl (by decide) rfl (fun ls hl => ?_)
                  refine lv_aload_n hx hb dX6_reads_132 rfl (lv_at hl 1 rfl) ?_
                  refine lv_iload hx hb dX6_reads_133 (lv_at hl 0 rfl) ?_
                  refine lv_if_eq (tgt := 145) hx hb dX6_reads_135 (by decide) (fun c127 => ?_) (fun c127 => ?_)
                  · refine lv_iload hx hb dX6_reads_145 (lv_at hl 5 rfl) ?_
                    refine va_put (D := (dC, dI)) (ci := 6) (v := .int x4_14) (ty := .int) (C := RX6) (T := TX6) (N := 15) hx hb hts hin6 tyX6 tyX6_ok nmX6 hown hK hP hD hS 0 rfl rfl 7 (by decide) (hts (.fieldLink RX6 125 "FeedDeskModel" "next" "I") (List.mem_of_getElem? (i := 1) rfl)) (fun _ h9 => h9) rfl (by decide +kernel) rfl rfl (Nat.le_of_ble_eq_true rfl) dX6_reads_147 (fun H128 locs hP hD hS => ?_)
                    have hP : va_P (dC, dI) vwCl (cMd a cI (sU R_14 6 3 x4_14)) H128 := hP
                    have hD : va_D (va_A (cMd a cI R) s.heap.size) (cMd a cI (sU R_14 6 3 x4_14)) := hD
                    obtain ⟨Rn129, eRn129⟩ : ∃ z : SR, z = sU R_14 6 3 x4_14 := ⟨_, rfl⟩
                    rw [sLet_eq, ← eRn129] at hR
                    rw [← eRn129] at hP hD
                    have ht130 : WFT Rn129 := (by rw [eRn129]; exact fkr_first hf_14)
                    have hsk131 : Rn129 0 = R 0 := (by rw [eRn129]; exact hsk_14)
                    refine lv_aload_n hx hb dX6_reads_150 rfl (lv_at hl 1 rfl) ?_
                    refine lv_iload hx hb dX6_reads_151 (lv_at hl 6 rfl) ?_
                    refine va_put (D := (dC, dI)) (ci := 6) (v := .int x5_14) (ty := .int) (C := RX6) (T := TX6) (N := 15) hx hb hts hin6 tyX6 tyX6_ok nmX6 hown hK hP hD hS 0 rfl rfl 8 (by decide) (hts (.fieldLink RX6 132 "FeedDeskModel" "number" "I") (List.mem_of_getElem? (i := 5) rfl)) (fun _ h9 => h9) rfl (by decide +kernel) rfl rfl (Nat.le_of_ble_eq_true rfl) dX6_reads_153 (fun H132 locs hP hD hS => ?_)
                    have hP : va_P (dC, dI) vwCl (cMd a cI (sU Rn129 6 4 x5_14)) H132 := hP
                    have hD : va_D (va_A (cMd a cI R) s.heap.size) (cMd a cI (sU Rn129 6 4 x5_14)) := hD
                    obtain ⟨Rn133, eRn133⟩ : ∃ z : SR, z = sU Rn129 6 4 x5_14 := ⟨_, rfl⟩
                    rw [sLet_eq, ← eRn133] at hR
                    rw [← eRn133] at hP hD
                    have ht134 : WFT Rn133 := (by rw [eRn133]; exact ht130)
                    have hsk135 : Rn133 0 = R 0 := (by rw [eRn133]; exact hsk131)
                    refine lv_iload hx hb dX6_reads_156 (lv_at hl 0 rfl) ?_
                    exact W.zret (v := 0) hx hb hr rfl (fun t ht hWw => ⟨⟨0, Rn133, rfl, ⟨hR.symm.trans eR, ht134, hsk135, (Or.inl rfl), (Or.inl rfl)⟩, by rw [ht]; exact hP, hD⟩, hS.F ht⟩) hS.2.2 dX6_reads_158
                  · exact absurd c127 (by decide)
                · rw [if_neg c126] at hR
                  refine lv_iconst (v := 1) hx hb dX6_reads_125 (by decide) ?_
                  refine lv_goto (tgt := 130) hx hb dX6_reads_126 (by decide) ?_
                  refine lv_istore (lv' := [(6, .int 1), (0, .ref (a 0)), (1, .int p1), (2, .int p2), (3, .int x3_14), (4, .int x4_14), (5, .int x5_14)]) hx hb dX6_reads_130 hl (by decide) rfl (fun ls hl => ?_)
                  refine lv_aload_n hx hb dX6_reads_132 rfl (lv_at hl 1 rfl) ?_
                  refine lv_iload hx hb dX6_reads_133 (lv_at hl 0 rfl) ?_
                  refine lv_if_eq (tgt := 145) hx hb dX6_reads_135 (by decide) (fun c136 => ?_) (fun c136 => ?_)
                  · exact absurd c136 (by decide)
                  · refine lv_aload_n hx hb dX6_reads_138 rfl (lv_at hl 1 rfl) ?_
                    refine va_get (D := (dC, dI)) (ci := 6) (v := .int (R_14 6 3)) (C := RX6) (T := TX6) (N := 15) hx hb hts hin6 hown hK hP 0 rfl rfl 7 (by decide) (hts (.fieldLink RX6 125 "FeedDeskModel" "next" "I") (List.mem_of_getElem? (i := 1) rfl)) (fun _ h9 => h9) rfl dX6_reads_139 ?_
                    refine lv_goto (tgt := 147) hx hb dX6_reads_142 (by decide) ?_
                    refine va_put (D := (dC, dI)) (ci := 6) (v := .int (R_14 6 3)) (ty := .int) (C := RX6) (T := TX6) (N := 15) hx hb hts hin6 tyX6 tyX6_ok nmX6 hown hK hP hD hS 0 rfl rfl 7 (by decide) (hts (.fieldLink RX6 125 "FeedDeskModel" "next" "I") (List.mem_of_getElem? (i := 1) rfl)) (fun _ h9 => h9) rfl (by decide +kernel) rfl rfl (Nat.le_of_ble_eq_true rfl) dX6_reads_147 (fun H137 locs hP hD hS => ?_)
                    have hP : va_P (dC, dI) vwCl (cMd a cI (sU R_14 6 3 (R_14 6 3))) H137 := hP
                    have hD : va_D (va_A (cMd a cI R) s.heap.size) (cMd a cI (sU R_14 6 3 (R_14 6 3))) := hD
                    obtain ⟨Rn138, eRn138⟩ : ∃ z : SR, z = sU R_14 6 3 (R_14 6 3) := ⟨_, rfl⟩
                    rw [sLet_eq, ← eRn138] at hR
                    rw [← eRn138] at hP hD
                    have ht139 : WFT Rn138 := (by rw [eRn138]; exact ht_14)
                    have hsk140 : Rn138 0 = R 0 := (by rw [eRn138]; exact hsk_14)
                    refine lv_aload_n hx hb dX6_reads_150 rfl (lv_at hl 1 rfl) ?_
                    refine lv_iload hx hb dX6_reads_151 (lv_at hl 6 rfl) ?_
                    refine va_put (D := (dC, dI)) (ci := 6) (v := .int x5_14) (ty := .int) (C := RX6) (T := TX6) (N := 15) hx hb hts hin6 tyX6 tyX6_ok nmX6 hown hK hP hD hS 0 rfl rfl 8 (by decide) (hts (.fieldLink RX6 132 "FeedDeskModel" "number" "I") (List.mem_of_getElem? (i := 5) rfl)) (fun _ h9 => h9) rfl (by decide +kernel) rfl rfl (Nat.le_of_ble_eq_true rfl) dX6_reads_153 (fun H141 locs hP hD hS => ?_)
                    have hP : va_P (dC, dI) vwCl (cMd a cI (sU Rn138 6 4 x5_14)) H141 := hP
                    have hD : va_D (va_A (cMd a cI R) s.heap.size) (cMd a cI (sU Rn138 6 4 x5_14)) := hD
                    obtain ⟨Rn142, eRn142⟩ : ∃ z : SR, z = sU Rn138 6 4 x5_14 := ⟨_, rfl⟩
                    rw [sLet_eq, ← eRn142] at hR
                    rw [← eRn142] at hP hD
                    have ht143 : WFT Rn142 := (by rw [eRn142]; exact ht139)
                    have hsk144 : Rn142 0 = R 0 := (by rw [eRn142]; exact hsk140)
                    refine lv_iload hx hb dX6_reads_156 (lv_at hl 0 rfl) ?_
                    exact W.zret (v := 1) hx hb hr rfl (fun t ht hWw => ⟨⟨1, Rn142, rfl, ⟨hR.symm.trans eR, ht143, hsk144, (Or.inr (by rw [eRn142]; exact in_split c126)), (Or.inr rfl)⟩, by rw [ht]; exact hP, hD⟩, hS.F ht⟩) hS.2.2 dX6_reads_158
        · rw [if_neg c79] at hR
          refine lv_iload hx hb dX6_reads_44 (lv_at hl 5 rfl) ?_
          refine lv_ldc (v := 100000) hx hb hown (hts (.constant RX6 131 (100000)) (List.mem_of_getElem? (i := 4) rfl)) dX6_reads_46 ?_
          refine lv_icmp_ge (tgt := 72) hx hb dX6_reads_48 (by decide) (fun c145 => ?_) (fun c145 => ?_)
          · rw [if_pos c145] at hR
            refine lv_iload hx hb dX6_reads_72 (lv_at hl 5 rfl) ?_
            refine lv_istore (lv' := [(5, .int x5_14), (0, .ref (a 0)), (1, .int p1), (2, .int p2), (3, .int x3_14), (4, .int x4_14)]) hx hb dX6_reads_74 hl (by decide) rfl (fun ls hl => ?_)
            refine lv_aload_n hx hb dX6_reads_76 rfl (lv_at hl 1 rfl) ?_
            refine lv_dup hx hb dX6_reads_77 rfl ?_
            refine va_get (D := (dC, dI)) (ci := 6) (v := .int (R_14 6 3)) (C := RX6) (T := TX6) (N := 15) hx hb hts hin6 hown hK hP 0 rfl rfl 7 (by decide) (hts (.fieldLink RX6 125 "FeedDeskModel" "next" "I") (List.mem_of_getElem? (i := 1) rfl)) (fun _ h9 => h9) rfl dX6_reads_78 ?_
            refine lv_iconst (v := 1) hx hb dX6_reads_81 (by decide) ?_
            refine lv_iadd hx hb dX6_reads_82 ?_
            refine va_put (D := (dC, dI)) (ci := 6) (v := .int ((R_14 6 3) + 1)) (ty := .int) (C := RX6) (T := TX6) (N := 15) hx hb hts hin6 tyX6 tyX6_ok nmX6 hown hK hP hD hS 0 rfl rfl 7 (by decide) (hts (.fieldLink RX6 125 "FeedDeskModel" "next" "I") (List.mem_of_getElem? (i := 1) rfl)) (fun _ h9 => h9) rfl (by decide +kernel) rfl rfl (Nat.le_of_ble_eq_true rfl) dX6_reads_83 (fun H146 locs hP hD hS => ?_)
            have hP : va_P (dC, dI) vwCl (cMd a cI (sU R_14 6 3 ((R_14 6 3) + 1))) H146 := hP
            have hD : va_D (va_A (cMd a cI R) s.heap.size) (cMd a cI (sU R_14 6 3 ((R_14 6 3) + 1))) := hD
            obtain ⟨Rn147, eRn147⟩ : ∃ z : SR, z = sU R_14 6 3 ((R_14 6 3) + 1) := ⟨_, rfl⟩
            rw [sLet_eq, ← eRn147] at hR
            rw [← eRn147] at hP hD
            have ht148 : WFT Rn147 := (by rw [eRn147]; exact wft_inc ht_14 c10)
            have hsk149 : Rn147 0 = R 0 := (by rw [eRn147]; exact hsk_14)
            refine lv_goto (tgt := 14) hx hb dX6_reads_86 (by decide) ?_
            exact ih_14 x3_14 x4_14 x5_14 Rn147 (by rw [eRn147]; exact ms_back (wft_ms ht_14 c10) hm_14) ht148 hsk149 (by rw [eRn147]; exact fkr_inc hf_14 c10) hR _ _ _ hP hD hS (lv_sub hl [1, 2, 3, 4, 5, 0] rfl)
          · rw [if_neg c145] at hR
            refine lv_bipush (v := 10) hx hb dX6_reads_51 (by decide) ?_
            refine lv_iload hx hb dX6_reads_53 (lv_at hl 5 rfl) ?_
            refine lv_imul hx hb dX6_reads_55 ?_
            refine lv_aload_n hx hb dX6_reads_56 rfl (lv_at hl 0 rfl) ?_
            refine va_get (D := (dC, dI)) (ci := 6) (v := .ref (a 4)) (C := RX6) (T := TX6) (N := 15) hx hb hts hin6 hown hK hP 0 rfl rfl 5 (by decide) (hts (.fieldLink RX6 19 "FeedDeskModel" "text" "[I") (List.mem_of_getElem? (i := 3) rfl)) (fun _ h9 => h9) rfl dX6_reads_57 ?_
            refine lv_aload_n hx hb dX6_reads_60 rfl (lv_at hl 0 rfl) ?_
            refine va_get (D := (dC, dI)) (ci := 6) (v := .int (R_14 6 3)) (C := RX6) (T := TX6) (N := 15) hx hb hts hin6 hown hK hP 0 rfl rfl 7 (by decide) (hts (.fieldLink RX6 125 "FeedDeskModel" "next" "I") (List.mem_of_getElem? (i := 1) rfl)) (fun _ h9 => h9) rfl dX6_reads_61 ?_
            refine va_iald (f := R_14 3) hx hb hK hP 4 0 rfl rfl (wft_in ht_14 c10) dX6_reads_64 ?_
            refine lv_iadd hx hb dX6_reads_65 ?_
            refine lv_bipush (v := 48) hx hb dX6_reads_66 (by decide) ?_
            refine lv_isub hx hb dX6_reads_68 ?_
            refine lv_goto (tgt := 74) hx hb dX6_reads_69 (by decide) ?_
            refine lv_istore (lv' := [(5, .int (((10 * x5_14) + (R_14 3 (R_14 6 3).toNatClampNeg)) - 48)), (0, .ref (a 0)), (1, .int p1), (2, .int p2), (3, .int x3_14), (4, .int x4_14)]) hx hb dX6_reads_74 hl (by decide) rfl (fun ls hl => ?_)
            refine lv_aload_n hx hb dX6_reads_76 rfl (lv_at hl 1 rfl) ?_
            refine lv_dup hx hb dX6_reads_77 rfl ?_
            refine va_get (D := (dC, dI)) (ci := 6) (v := .int (R_14 6 3)) (C := RX6) (T := TX6) (N := 15) hx hb hts hin6 hown hK hP 0 rfl rfl 7 (by decide) (hts (.fieldLink RX6 125 "FeedDeskModel" "next" "I") (List.mem_of_getElem? (i := 1) rfl)) (fun _ h9 => h9) rfl dX6_reads_78 ?_
            refine lv_iconst (v := 1) hx hb dX6_reads_81 (by decide) ?_
            refine lv_iadd hx hb dX6_reads_82 ?_
            refine va_put (D := (dC, dI)) (ci := 6) (v := .int ((R_14 6 3) + 1)) (ty := .int) (C := RX6) (T := TX6) (N := 15) hx hb hts hin6 tyX6 tyX6_ok nmX6 hown hK hP hD hS 0 rfl rfl 7 (by decide) (hts (.fieldLink RX6 125 "FeedDeskModel" "next" "I") (List.mem_of_getElem? (i := 1) rfl)) (fun _ h9 => h9) rfl (by decide +kernel) rfl rfl (Nat.le_of_ble_eq_true rfl) dX6_reads_83 (fun H150 locs hP hD hS => ?_)
            have hP : va_P (dC, dI) vwCl (cMd a cI (sU R_14 6 3 ((R_14 6 3) + 1))) H150 := hP
            have hD : va_D (va_A (cMd a cI R) s.heap.size) (cMd a cI (sU R_14 6 3 ((R_14 6 3) + 1))) := hD
            obtain ⟨Rn151, eRn151⟩ : ∃ z : SR, z = sU R_14 6 3 ((R_14 6 3) + 1) := ⟨_, rfl⟩
            rw [sLet_eq, ← eRn151] at hR
            rw [← eRn151] at hP hD
            have ht152 : WFT Rn151 := (by rw [eRn151]; exact wft_inc ht_14 c10)
            have hsk153 : Rn151 0 = R 0 := (by rw [eRn151]; exact hsk_14)
            refine lv_goto (tgt := 14) hx hb dX6_reads_86 (by decide) ?_
            exact ih_14 x3_14 x4_14 (((10 * x5_14) + (R_14 3 (R_14 6 3).toNatClampNeg)) - 48) Rn151 (by rw [eRn151]; exact ms_back (wft_ms ht_14 c10) hm_14) ht152 hsk153 (by rw [eRn151]; exact fkr_inc hf_14 c10) hR _ _ _ hP hD hS (lv_sub hl [1, 2, 3, 4, 5, 0] rfl)
  exact hL_14 142 ((f_X6_here R).1) (Rn6 6 3) 0 Rn6 (ms_lt ht7) ht7 hsk8 (fkr_0 ht7) hR _ _ _ hP hD hS (lv_sub hl [3, 4, 5, 2, 1, 0] rfl)
abbrev rm_X6_readsGroups : Room := { frames := 1, cells := 0, slots := 0, locals := 22 }
def f_X6_readsGroups_p18   : Nat → Int32 → SR → (Int32 × SR)
  | 0, _, R_18 => (0, R_18)
  | n_18 + 1, x1_18, R_18 => (if (R_18 6 2) ≤ (R_18 6 3) then sLet (sU R_18 6 4 x1_18) (fun Rn16 : SR => (1, Rn16)) else (if (f_X6_in (R_18 3 (R_18 6 3).toNatClampNeg) 48 57) = 0 then sLet (sU R_18 6 4 x1_18) (fun Rn24 : SR => (1, Rn24)) else (if 3 < ((R_18 3 (R_18 6 3).toNatClampNeg) - 48) then (0, R_18) else (if (f_X6_has x1_18 ((R_18 3 (R_18 6 3).toNatClampNeg) - 48)) = 0 then sLet (sU R_18 6 3 ((R_18 6 3) + 1)) (fun Rn33 : SR => (f_X6_readsGroups_p18 n_18) (x1_18 ||| (1 <<< (((R_18 3 (R_18 6 3).toNatClampNeg) - 48) &&& 31))) Rn33) else (0, R_18)))))
def f_X6_readsGroups (R : SR)  : Int32 × SR := sLet ((f_X6_here R).2) (fun Rn6 : SR => (if (f_X6_in ((f_X6_here R).1) 48 51) = 0 then (0, Rn6) else f_X6_readsGroups_p18 142 0 Rn6))
set_option maxHeartbeats 4000000 in
set_option maxRecDepth 100000 in
theorem c_X6_readsGroups (l : Launch) (dC : Nat → ClassId) (dI : Nat → Nat → Nat) (cI cC cS : ClassId) (a : Nat → Nat) (R : SR) (sz : Nat)  (ht : WFT R) : Met l yX6_readsGroups wsX6_readsGroups rm_X6_readsGroups (PcG (dC, dI) (tyL cI cC cS) (cMd a cI R) sz [.ref (a 0)]) (va_Qi (fun (r : Int32) (u : SR) => (r, u) = f_X6_readsGroups R ∧ (WFT u) ∧ (u 0 = R 0) ∧ (r = 0 ∨ r = 1)) (fun u U => va_P (dC, dI) vwCl (cMd a cI u) U.heap ∧ va_D (va_A (cMd a cI R) sz) (cMd a cI u)) (va_A (cMd a cI R) sz)) 0 0 (va_A (cMd a cI R) sz) := by
  refine Met.ofW (cc := cX6_readsGroups) (maxL := 3) (ret := (some .boolean)) (by decide) rfl ?_
  intro p e s m args below meth c s₁ B hml hv
  obtain ⟨rfl, hsz, hP, hK, hD0, hN⟩ := hv
  have hx := B.exec
  have hb := B.bytes
  have hr := B.returns
  have hts := atoms_spec (ws := wsX6_readsGroups) B.pre
  have hown : s.vm.findClass RX6 = some m.cls := findClass_of_methodNamed B.named
  have hlocks := B.notSynchronized
  subst hsz
  have hD := hD0.self (sz := s.heap.size)
  have hA : ∀ q : Nat, s.heap.size ≤ q → (va_A (cMd a cI R) s.heap.size) q := fun q h => Or.inr h
  have hS : va_S (va_A (cMd a cI R) s.heap.size) s.heap s.heap [] := va_S.rf
  have hin6 : ∀ w ∈ wsX60, w ∈ wsX6_readsGroups := fun _ h => List.mem_cons_of_mem _ (List.mem_append_right _ h)
  have hsk_0 : R 0 = R 0 := rfl
  have hl := lv_entry [.ref (a 0)] (n := 3) (Nat.le_of_ble_eq_true rfl)
  rw [lg_entry_eq]
  generalize (lg_sl [.ref (a 0)] ++ List.replicate (3 - (lg_sl [.ref (a 0)]).length) Slot.unset).toArray = ls at hl ⊢
  have hl : lv_has ls 3 [(0, .ref (a 0))] := hl
  obtain ⟨R0, eR⟩ : ∃ z, z = f_X6_readsGroups R := ⟨_, rfl⟩
  have hR := eR
  rw [f_X6_readsGroups] at hR
  refine lv_iconst (v := 0) hx hb dX6_readsGroups_0 (by decide) ?_
  refine lv_istore_n (lv' := [(1, .int 0), (0, .ref (a 0))]) hx hb dX6_readsGroups_1 rfl hl (by decide) rfl (fun ls hl => ?_)
  refine lv_aload_n hx hb dX6_readsGroups_2 rfl (lv_at hl 1 rfl) ?_
  have hPc : va_P (dC, dI) vwCl (cMd a cI R) s.heap := hP.sub [0, 1, 2, 3, 4, 5, 6] rfl
  have hDc : va_D (va_A (cMd a cI R) s.heap.size) (cMd a cI R) := hD.sub [0, 1, 2, 3, 4, 5, 6] (by decide) rfl
  have hFc : ∀ q : Nat, va_A (cMd a cI R) s.heap.size q → (va_A (cMd a cI R) s.heap.size) q := va_free hD hS hA [0, 1, 2, 3, 4, 5, 6] rfl
  refine va_calli (va_runV (As := []) (rest := []) ⟨hx, hb, hml, hown, hts⟩ (c_X6_here l dC dI cI cC cS a R s.heap.size ht) (cwV 0 hts gX6_readsGroups_X6_here rfl rfl rfl (by decide +kernel) ⟨Nat.le_of_ble_eq_true rfl, Nat.le_of_ble_eq_true rfl⟩) (pV (q0 := 0) hK hPc hDc hN rfl rfl) rfl rfl hl.1 rfl (lv_room (Nat.le_of_ble_eq_true rfl)) dX6_readsGroups_3 ⟨Nat.le_of_ble_eq_true rfl, Nat.le_of_ble_eq_true rfl⟩) hS (fun q _ h => hFc q h) hFc (fun r_1 u_1 t_1 H2 locs ht hvm hw hB hz1 hk1 hS => ?_)
  obtain ⟨hw, hens3, hens4, hens5⟩ := hw
  obtain ⟨hP1, hD1⟩ := hB
  rw [ht] at hP1
  have hw1 : r_1 = (f_X6_here R).1 := congrArg Prod.fst hw
  have hw2 : u_1 = (f_X6_here R).2 := congrArg Prod.snd hw
  clear hw
  subst hw1
  subst hw2
  obtain ⟨hP, hD⟩ := va_join (wc := cMd a cI R) (wr := []) (w1 := cMd a cI ((f_X6_here R).2)) hP hD [0, 1, 2, 3, 4, 5, 6] [] rfl rfl (by decide) (by decide) hk1 hFc hP1 hD1
  have hP : va_P (dC, dI) vwCl (cMd a cI ((f_X6_here R).2)) H2 := hP.sub [0, 1, 2, 3, 4, 5, 6] rfl
  have hD : va_D (va_A (cMd a cI R) s.heap.size) (cMd a cI ((f_X6_here R).2)) := hD.sub [0, 1, 2, 3, 4, 5, 6] (by decide) rfl
  obtain ⟨Rn6, eRn6⟩ : ∃ z : SR, z = (f_X6_here R).2 := ⟨_, rfl⟩
  rw [sLet_eq, ← eRn6] at hR
  rw [← eRn6] at hP hD
  have ht7 : WFT Rn6 := by rw [eRn6]; exact hens3
  have hsk8 : Rn6 0 = R 0 := by rw [eRn6]; exact hens4
  have hq9 : ((f_X6_here R).1) = -1 ∨ ¬ Rn6 6 2 ≤ Rn6 6 3 := by rw [eRn6]; exact hens5
  refine lv_bipush (v := 48) hx hb dX6_readsGroups_6 (by decide) ?_
  refine lv_bipush (v := 51) hx hb dX6_readsGroups_8 (by decide) ?_
  have hFc : ∀ q : Nat, va_A [] H2.size q → (va_A (cMd a cI R) s.heap.size) q := roF hS hA
  refine va_calli (va_runS (As := [.int ((f_X6_here R).1), .int 48, .int 51]) (rest := []) ⟨hx, hb, hml, hown, hts⟩ (c_X6_in l dC dI cI cC cS H2.size ((f_X6_here R).1) 48 51) (va_cwS 3 hts gX6_readsGroups_X6_in rfl rfl rfl (by decide +kernel) ⟨Nat.le_of_ble_eq_true rfl, Nat.le_of_ble_eq_true rfl⟩) (pS hK (va_P_nil) (va_D_nil) hN) rfl rfl hl.1 rfl (lv_room (Nat.le_of_ble_eq_true rfl)) dX6_readsGroups_10 ⟨Nat.le_of_ble_eq_true rfl, Nat.le_of_ble_eq_true rfl⟩) hS (fun q _ h => hFc q h) hFc (fun r_10 u_10 t_10 H11 locs ht hvm hw hB hz1 hk1 hS => ?_)
  obtain ⟨hw, hre12⟩ := hw
  subst hw
  have hP := ro_keep hP hk1
  refine lv_if_ne (tgt := 18) hx hb dX6_readsGroups_13 (by decide) (fun c13 => ?_) (fun c13 => ?_)
  · rw [if_neg c13] at hR
    have hL_18 : ∀ n_18 : Nat,  ∀ (x1_18 : Int32) (R_18 : SR), ms (vw R_18) < n_18 → WFT R_18 → R_18 0 = R 0 → R0 = f_X6_readsGroups_p18 n_18 x1_18 R_18 → ∀ (H : Heap) (locs : List Loc) (ls : Array Slot), va_P (dC, dI) vwCl (cMd a cI R_18) H → va_D (va_A (cMd a cI R) s.heap.size) (cMd a cI R_18) → va_S (va_A (cMd a cI R) s.heap.size) s.heap H locs → lv_has ls 3 [(0, .ref (a 0)), (1, .int x1_18)] → W p l e (headSpec wsX6_readsGroups rm_X6_readsGroups).room s m ([.ref (a 0)] : List Value).toArray below meth c H locs 0 0 (MQ below (va_Qi (fun (r : Int32) (u : SR) => (r, u) = f_X6_readsGroups R ∧ (WFT u) ∧ (u 0 = R 0) ∧ (r = 0 ∨ r = 1)) (fun u U => va_P (dC, dI) vwCl (cMd a cI u) U.heap ∧ va_D (va_A (cMd a cI R) s.heap.size) (cMd a cI u)) (va_A (cMd a cI R) s.heap.size)) ([.ref (a 0)] : List Value).toArray s 0 0 (va_A (cMd a cI R) s.heap.size)) (F0 m 18 ls []) := by
      intro n_18
      induction n_18 with
      | zero =>
        intro  x1_18 R_18 hm_18 ht_18 hsk_18
        exact absurd hm_18 (Nat.not_lt_zero _)
      | succ n_18 ih_18 =>
        intro  x1_18 R_18 hm_18 ht_18 hsk_18 hR H locs ls hP hD hS hl
        rw [f_X6_readsGroups_p18] at hR
        refine lv_aload_n hx hb dX6_readsGroups_18 rfl (lv_at hl 0 rfl) ?_
        refine va_get (D := (dC, dI)) (ci := 6) (v := .int (R_18 6 3)) (C := RX6) (T := TX6) (N := 15) hx hb hts hin6 hown hK hP 0 rfl rfl 7 (by decide) (hts (.fieldLink RX6 125 "FeedDeskModel" "next" "I") (List.mem_of_getElem? (i := 1) rfl)) (fun _ h9 => h9) rfl dX6_readsGroups_19 ?_
        refine lv_aload_n hx hb dX6_readsGroups_22 rfl (lv_at hl 0 rfl) ?_
        refine va_get (D := (dC, dI)) (ci := 6) (v := .int (R_18 6 2)) (C := RX6) (T := TX6) (N := 15) hx hb hts hin6 hown hK hP 0 rfl rfl 6 (by decide) (hts (.fieldLink RX6 122 "FeedDeskModel" "length" "I") (List.mem_of_getElem? (i := 2) rfl)) (fun _ h9 => h9) rfl dX6_readsGroups_23 ?_
        refine lv_icmp_ge (tgt := 95) hx hb dX6_readsGroups_26 (by decide) (fun c14 => ?_) (fun c14 => ?_)
        · rw [if_pos c14] at hR
          refine lv_aload_n hx hb dX6_readsGroups_95 rfl (lv_at hl 0 rfl) ?_
          refine lv_iload_n hx hb dX6_readsGroups_96 rfl (lv_at hl 1 rfl) ?_
          refine va_put (D := (dC, dI)) (ci := 6) (v := .int x1_18) (ty := .int) (C := RX6) (T := TX6) (N := 15) hx hb hts hin6 tyX6 tyX6_ok nmX6 hown hK hP hD hS 0 rfl rfl 8 (by decide) (hts (.fieldLink RX6 132 "FeedDeskModel" "number" "I") (List.mem_of_getElem? (i := 4) rfl)) (fun _ h9 => h9) rfl (by decide +kernel) rfl rfl (Nat.le_of_ble_eq_true rfl) dX6_readsGroups_97 (fun H15 locs hP hD hS => ?_)
          have hP : va_P (dC, dI) vwCl (cMd a cI (sU R_18 6 4 x1_18)) H15 := hP
          have hD : va_D (va_A (cMd a cI R) s.heap.size) (cMd a cI (sU R_18 6 4 x1_18)) := hD
          obtain ⟨Rn16, eRn16⟩ : ∃ z : SR, z = sU R_18 6 4 x1_18 := ⟨_, rfl⟩
          rw [sLet_eq, ← eRn16] at hR
          rw [← eRn16] at hP hD
          have ht17 : WFT Rn16 := (by rw [eRn16]; exact ht_18)
          have hsk18 : Rn16 0 = R 0 := (by rw [eRn16]; exact hsk_18)
          refine lv_iconst (v := 1) hx hb dX6_readsGroups_100 (by decide) ?_
          exact W.zret (v := 1) hx hb hr rfl (fun t ht hWw => ⟨⟨1, Rn16, rfl, ⟨hR.symm.trans eR, ht17, hsk18, (Or.inr rfl)⟩, by rw [ht]; exact hP, hD⟩, hS.F ht⟩) hS.2.2 dX6_readsGroups_101
        · rw [if_neg c14] at hR
          refine lv_aload_n hx hb dX6_readsGroups_29 rfl (lv_at hl 0 rfl) ?_
          refine va_get (D := (dC, dI)) (ci := 6) (v := .ref (a 4)) (C := RX6) (T := TX6) (N := 15) hx hb hts hin6 hown hK hP 0 rfl rfl 5 (by decide) (hts (.fieldLink RX6 19 "FeedDeskModel" "text" "[I") (List.mem_of_getElem? (i := 3) rfl)) (fun _ h9 => h9) rfl dX6_readsGroups_30 ?_
          refine lv_aload_n hx hb dX6_readsGroups_33 rfl (lv_at hl 0 rfl) ?_
          refine va_get (D := (dC, dI)) (ci := 6) (v := .int (R_18 6 3)) (C := RX6) (T := TX6) (N := 15) hx hb hts hin6 hown hK hP 0 rfl rfl 7 (by decide) (hts (.fieldLink RX6 125 "FeedDeskModel" "next" "I") (List.mem_of_getElem? (i := 1) rfl)) (fun _ h9 => h9) rfl dX6_readsGroups_34 ?_
          refine va_iald (f := R_18 3) hx hb hK hP 4 0 rfl rfl (wft_in ht_18 c14) dX6_readsGroups_37 ?_
          refine lv_bipush (v := 48) hx hb dX6_readsGroups_38 (by decide) ?_
          refine lv_bipush (v := 57) hx hb dX6_readsGroups_40 (by decide) ?_
          have hFc : ∀ q : Nat, va_A [] H.size q → (va_A (cMd a cI R) s.heap.size) q := roF hS hA
          refine va_calli (va_runS (As := [.int (R_18 3 (R_18 6 3).toNatClampNeg), .int 48, .int 57]) (rest := []) ⟨hx, hb, hml, hown, hts⟩ (c_X6_in l dC dI cI cC cS H.size (R_18 3 (R_18 6 3).toNatClampNeg) 48 57) (va_cwS 3 hts gX6_readsGroups_X6_in rfl rfl rfl (by decide +kernel) ⟨Nat.le_of_ble_eq_true rfl, Nat.le_of_ble_eq_true rfl⟩) (pS hK (va_P_nil) (va_D_nil) hN) rfl rfl hl.1 rfl (lv_room (Nat.le_of_ble_eq_true rfl)) dX6_readsGroups_42 ⟨Nat.le_of_ble_eq_true rfl, Nat.le_of_ble_eq_true rfl⟩) hS (fun q _ h => hFc q h) hFc (fun r_19 u_19 t_19 H20 locs ht hvm hw hB hz1 hk1 hS => ?_)
          obtain ⟨hw, hre21⟩ := hw
          subst hw
          have hP := ro_keep hP hk1
          refine lv_if_eq (tgt := 95) hx hb dX6_readsGroups_45 (by decide) (fun c22 => ?_) (fun c22 => ?_)
          · rw [if_pos c22] at hR
            refine lv_aload_n hx hb dX6_readsGroups_95 rfl (lv_at hl 0 rfl) ?_
            refine lv_iload_n hx hb dX6_readsGroups_96 rfl (lv_at hl 1 rfl) ?_
            refine va_put (D := (dC, dI)) (ci := 6) (v := .int x1_18) (ty := .int) (C := RX6) (T := TX6) (N := 15) hx hb hts hin6 tyX6 tyX6_ok nmX6 hown hK hP hD hS 0 rfl rfl 8 (by decide) (hts (.fieldLink RX6 132 "FeedDeskModel" "number" "I") (List.mem_of_getElem? (i := 4) rfl)) (fun _ h9 => h9) rfl (by decide +kernel) rfl rfl (Nat.le_of_ble_eq_true rfl) dX6_readsGroups_97 (fun H23 locs hP hD hS => ?_)
            have hP : va_P (dC, dI) vwCl (cMd a cI (sU R_18 6 4 x1_18)) H23 := hP
            have hD : va_D (va_A (cMd a cI R) s.heap.size) (cMd a cI (sU R_18 6 4 x1_18)) := hD
            obtain ⟨Rn24, eRn24⟩ : ∃ z : SR, z = sU R_18 6 4 x1_18 := ⟨_, rfl⟩
            rw [sLet_eq, ← eRn24] at hR
            rw [← eRn24] at hP hD
            have ht25 : WFT Rn24 := (by rw [eRn24]; exact ht_18)
            have hsk26 : Rn24 0 = R 0 := (by rw [eRn24]; exact hsk_18)
            refine lv_iconst (v := 1) hx hb dX6_readsGroups_100 (by decide) ?_
            exact W.zret (v := 1) hx hb hr rfl (fun t ht hWw => ⟨⟨1, Rn24, rfl, ⟨hR.symm.trans eR, ht25, hsk26, (Or.inr rfl)⟩, by rw [ht]; exact hP, hD⟩, hS.F ht⟩) hS.2.2 dX6_readsGroups_101
          · rw [if_neg c22] at hR
            refine lv_aload_n hx hb dX6_readsGroups_48 rfl (lv_at hl 0 rfl) ?_
            refine va_get (D := (dC, dI)) (ci := 6) (v := .ref (a 4)) (C := RX6) (T := TX6) (N := 15) hx hb hts hin6 hown hK hP 0 rfl rfl 5 (by decide) (hts (.fieldLink RX6 19 "FeedDeskModel" "text" "[I") (List.mem_of_getElem? (i := 3) rfl)) (fun _ h9 => h9) rfl dX6_readsGroups_49 ?_
            refine lv_aload_n hx hb dX6_readsGroups_52 rfl (lv_at hl 0 rfl) ?_
            refine va_get (D := (dC, dI)) (ci := 6) (v := .int (R_18 6 3)) (C := RX6) (T := TX6) (N := 15) hx hb hts hin6 hown hK hP 0 rfl rfl 7 (by decide) (hts (.fieldLink RX6 125 "FeedDeskModel" "next" "I") (List.mem_of_getElem? (i := 1) rfl)) (fun _ h9 => h9) rfl dX6_readsGroups_53 ?_
            refine va_iald (f := R_18 3) hx hb hK hP 4 0 rfl rfl (wft_in ht_18 c14) dX6_readsGroups_56 ?_
            refine lv_bipush (v := 48) hx hb dX6_readsGroups_57 (by decide) ?_
            refine lv_isub hx hb dX6_readsGroups_59 ?_
            refine lv_istore_n (lv' := [(2, .int ((R_18 3 (R_18 6 3).toNatClampNeg) - 48)), (0, .ref (a 0)), (1, .int x1_18)]) hx hb dX6_readsGroups_60 rfl hl (by decide) rfl (fun ls hl => ?_)
            refine lv_iload_n hx hb dX6_readsGroups_61 rfl (lv_at hl 0 rfl) ?_
            refine lv_iconst (v := 3) hx hb dX6_readsGroups_62 (by decide) ?_
            refine lv_icmp_gt (tgt := 74) hx hb dX6_readsGroups_63 (by decide) (fun c27 => ?_) (fun c27 => ?_)
            · rw [if_pos c27] at hR
              refine lv_iconst (v := 0) hx hb dX6_readsGroups_74 (by decide) ?_
              exact W.zret (v := 0) hx hb hr rfl (fun t ht hWw => ⟨⟨0, R_18, rfl, ⟨hR.symm.trans eR, ht_18, hsk_18, (Or.inl rfl)⟩, by rw [ht]; exact hP, hD⟩, hS.F ht⟩) hS.2.2 dX6_readsGroups_75
            · rw [if_neg c27] at hR
              refine lv_iload_n hx hb dX6_readsGroups_66 rfl (lv_at hl 2 rfl) ?_
              refine lv_iload_n hx hb dX6_readsGroups_67 rfl (lv_at hl 0 rfl) ?_
              have hFc : ∀ q : Nat, va_A [] H20.size q → (va_A (cMd a cI R) s.heap.size) q := roF hS hA
              refine va_calli (va_runS (As := [.int x1_18, .int ((R_18 3 (R_18 6 3).toNatClampNeg) - 48)]) (rest := []) ⟨hx, hb, hml, hown, hts⟩ (c_X6_has l dC dI cI cC cS H20.size x1_18 ((R_18 3 (R_18 6 3).toNatClampNeg) - 48)) (va_cwS 2 hts gX6_readsGroups_X6_has rfl rfl rfl (by decide +kernel) ⟨Nat.le_of_ble_eq_true rfl, Nat.le_of_ble_eq_true rfl⟩) (pS hK (va_P_nil) (va_D_nil) hN) rfl rfl hl.1 rfl (lv_room (Nat.le_of_ble_eq_true rfl)) dX6_readsGroups_68 ⟨Nat.le_of_ble_eq_true rfl, Nat.le_of_ble_eq_true rfl⟩) hS (fun q _ h => hFc q h) hFc (fun r_28 u_28 t_28 H29 locs ht hvm hw hB hz1 hk1 hS => ?_)
              obtain ⟨hw, hre30⟩ := hw
              subst hw
              have hP := ro_keep hP hk1
              refine lv_if_eq (tgt := 76) hx hb dX6_readsGroups_71 (by decide) (fun c31 => ?_) (fun c31 => ?_)
              · rw [if_pos c31] at hR
                refine lv_iload_n hx hb dX6_readsGroups_76 rfl (lv_at hl 2 rfl) ?_
                refine lv_iconst (v := 1) hx hb dX6_readsGroups_77 (by decide) ?_
                refine lv_iload_n hx hb dX6_readsGroups_78 rfl (lv_at hl 0 rfl) ?_
                refine lv_ishl hx hb dX6_readsGroups_79 ?_
                refine lv_ior hx hb dX6_readsGroups_80 ?_
                refine lv_istore_n (lv' := [(1, .int (x1_18 ||| (1 <<< (((R_18 3 (R_18 6 3).toNatClampNeg) - 48) &&& 31)))), (2, .int ((R_18 3 (R_18 6 3).toNatClampNeg) - 48)), (0, .ref (a 0))]) hx hb dX6_readsGroups_81 rfl hl (by decide) rfl (fun ls hl => ?_)
                refine lv_aload_n hx hb dX6_readsGroups_82 rfl (lv_at hl 2 rfl) ?_
                refine lv_dup hx hb dX6_readsGroups_83 rfl ?_
                refine va_get (D := (dC, dI)) (ci := 6) (v := .int (R_18 6 3)) (C := RX6) (T := TX6) (N := 15) hx hb hts hin6 hown hK hP 0 rfl rfl 7 (by decide) (hts (.fieldLink RX6 125 "FeedDeskModel" "next" "I") (List.mem_of_getElem? (i := 1) rfl)) (fun _ h9 => h9) rfl dX6_readsGroups_84 ?_
                refine lv_iconst (v := 1) hx hb dX6_readsGroups_87 (by decide) ?_
                refine lv_iadd hx hb dX6_readsGroups_88 ?_
                refine va_put (D := (dC, dI)) (ci := 6) (v := .int ((R_18 6 3) + 1)) (ty := .int) (C := RX6) (T := TX6) (N := 15) hx hb hts hin6 tyX6 tyX6_ok nmX6 hown hK hP hD hS 0 rfl rfl 7 (by decide) (hts (.fieldLink RX6 125 "FeedDeskModel" "next" "I") (List.mem_of_getElem? (i := 1) rfl)) (fun _ h9 => h9) rfl (by decide +kernel) rfl rfl (Nat.le_of_ble_eq_true rfl) dX6_readsGroups_89 (fun H32 locs hP hD hS => ?_)
                have hP : va_P (dC, dI) vwCl (cMd a cI (sU R_18 6 3 ((R_18 6 3) + 1))) H32 := hP
                have hD : va_D (va_A (cMd a cI R) s.heap.size) (cMd a cI (sU R_18 6 3 ((R_18 6 3) + 1))) := hD
                obtain ⟨Rn33, eRn33⟩ : ∃ z : SR, z = sU R_18 6 3 ((R_18 6 3) + 1) := ⟨_, rfl⟩
                rw [sLet_eq, ← eRn33] at hR
                rw [← eRn33] at hP hD
                have ht34 : WFT Rn33 := (by rw [eRn33]; exact wft_inc ht_18 c14)
                have hsk35 : Rn33 0 = R 0 := (by rw [eRn33]; exact hsk_18)
                refine lv_goto (tgt := 18) hx hb dX6_readsGroups_92 (by decide) ?_
                exact ih_18 (x1_18 ||| (1 <<< (((R_18 3 (R_18 6 3).toNatClampNeg) - 48) &&& 31))) Rn33 (by rw [eRn33]; exact ms_back (wft_ms ht_18 c14) hm_18) ht34 hsk35 hR _ _ _ hP hD hS (lv_sub hl [2, 0] rfl)
              · rw [if_neg c31] at hR
                refine lv_iconst (v := 0) hx hb dX6_readsGroups_74 (by decide) ?_
                exact W.zret (v := 0) hx hb hr rfl (fun t ht hWw => ⟨⟨0, R_18, rfl, ⟨hR.symm.trans eR, ht_18, hsk_18, (Or.inl rfl)⟩, by rw [ht]; exact hP, hD⟩, hS.F ht⟩) hS.2.2 dX6_readsGroups_75
    exact hL_18 142 0 Rn6 (ms_lt ht7) ht7 hsk8 hR _ _ _ hP hD hS (lv_sub hl [1, 0] rfl)
  · rw [if_pos c13] at hR
    refine lv_iconst (v := 0) hx hb dX6_readsGroups_16 (by decide) ?_
    exact W.zret (v := 0) hx hb hr rfl (fun t ht hWw => ⟨⟨0, Rn6, rfl, ⟨hR.symm.trans eR, ht7, hsk8, (Or.inl rfl)⟩, by rw [ht]; exact hP, hD⟩, hS.F ht⟩) hS.2.2 dX6_readsGroups_17
