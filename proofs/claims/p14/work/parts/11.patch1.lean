abbrev rm_X2_skipSpaces : Room := { frames := 0, cells := 0, slots := 0, locals := 0 }
def f_X2_skipSpaces_p0   : Nat → SR → SR
  | 0, P_0 => P_0
  | n_0 + 1, P_0 => (if (P_0 1 0) ≤ (P_0 1 1) then P_0 else (if (P_0 0 (P_0 1 1).toNatClampNeg) = 32 then sLet (sU P_0 1 1 ((P_0 1 1) + 1)) (fun Pn4 : SR => (f_X2_skipSpaces_p0 n_0) Pn4) else P_0))
def f_X2_skipSpaces (P : SR)  : SR := f_X2_skipSpaces_p0 142 P
set_option maxHeartbeats 4000000 in
set_option maxRecDepth 100000 in
theorem c_X2_skipSpaces (l : Launch) (dC : Nat → ClassId) (dI : Nat → Nat → Nat) (cI cC cS : ClassId) (a : Nat → Nat) (P : SR) (sz : Nat)  (hp : WFP P) : Met l yX2_skipSpaces wsX2_skipSpaces rm_X2_skipSpaces (PcG (dC, dI) (tyL cI cC cS) (cPt a cC P) sz [.ref (a 0)]) (va_Qv (fun (u : SR) => u = f_X2_skipSpaces P ∧ (WFP u)) (fun u U => va_P (dC, dI) vwCl (cPt a cC u) U.heap ∧ va_D (va_A (cPt a cC P) sz) (cPt a cC u)) (va_A (cPt a cC P) sz)) 0 0 (va_A (cPt a cC P) sz) := by
  refine Met.ofW (cc := cX2_skipSpaces) (maxL := 1) (ret := none) (by decide) rfl ?_
  intro p e s m args below meth c s₁ B hml hv
  obtain ⟨rfl, hsz, hP, hK, hD0, hN⟩ := hv
  have hx := B.exec
  have hb := B.bytes
  have hr := B.returns
  have hts := atoms_spec (ws := wsX2_skipSpaces) B.pre
  have hown : s.vm.findClass RX2 = some m.cls := findClass_of_methodNamed B.named
  have hlocks := B.notSynchronized
  subst hsz
  have hD := hD0.self (sz := s.heap.size)
  have hA : ∀ q : Nat, s.heap.size ≤ q → (va_A (cPt a cC P) s.heap.size) q := fun q h => Or.inr h
  have hS : va_S (va_A (cPt a cC P) s.heap.size) s.heap s.heap [] := va_S.rf
  have hin2 : ∀ w ∈ wsX20, w ∈ wsX2_skipSpaces := fun _ h => List.mem_cons_of_mem _ (List.mem_append_right _ h)
  have hl := lv_entry [.ref (a 0)] (n := 1) (Nat.le_of_ble_eq_true rfl)
  rw [lg_entry_eq]
  generalize (lg_sl [.ref (a 0)] ++ List.replicate (1 - (lg_sl [.ref (a 0)]).length) Slot.unset).toArray = ls at hl ⊢
  have hl : lv_has ls 1 [(0, .ref (a 0))] := hl
  obtain ⟨R0, eR⟩ : ∃ z, z = f_X2_skipSpaces P := ⟨_, rfl⟩
  have hR := eR
  rw [f_X2_skipSpaces] at hR
  have hL_0 : ∀ n_0 : Nat,  ∀  (P_0 : SR), ms P_0 < n_0 → WFP P_0 → R0 = f_X2_skipSpaces_p0 n_0 P_0 → ∀ (H : Heap) (locs : List Loc) (ls : Array Slot), va_P (dC, dI) vwCl (cPt a cC P_0) H → va_D (va_A (cPt a cC P) s.heap.size) (cPt a cC P_0) → va_S (va_A (cPt a cC P) s.heap.size) s.heap H locs → lv_has ls 1 [(0, .ref (a 0))] → W p l e (headSpec wsX2_skipSpaces rm_X2_skipSpaces).room s m ([.ref (a 0)] : List Value).toArray below meth c H locs 0 0 (MQ below (va_Qv (fun (u : SR) => u = f_X2_skipSpaces P ∧ (WFP u)) (fun u U => va_P (dC, dI) vwCl (cPt a cC u) U.heap ∧ va_D (va_A (cPt a cC P) s.heap.size) (cPt a cC u)) (va_A (cPt a cC P) s.heap.size)) ([.ref (a 0)] : List Value).toArray s 0 0 (va_A (cPt a cC P) s.heap.size)) (F0 m 0 ls []) := by
    intro n_0
    induction n_0 with
    | zero =>
      intro  P_0 hm_0 hp_0
      exact absurd hm_0 (Nat.not_lt_zero _)
    | succ n_0 ih_0 =>
      intro  P_0 hm_0 hp_0 hR H locs ls hP hD hS hl
      rw [f_X2_skipSpaces_p0] at hR
      refine lv_aload_n hx hb dX2_skipSpaces_0 rfl (lv_at hl 0 rfl) ?_
      refine va_get (D := (dC, dI)) (ci := 2) (v := .int (P_0 1 1)) (C := RX2) (T := TX2) (N := 3) hx hb hts hin2 hown hK hP 0 rfl rfl 2 (by decide) (hts (.fieldLink RX2 19 "FeedDesk$Patch" "at" "I") (List.mem_of_getElem? (i := 1) rfl)) (fun _ h9 => h9) rfl dX2_skipSpaces_1 ?_
      refine lv_aload_n hx hb dX2_skipSpaces_4 rfl (lv_at hl 0 rfl) ?_
      refine va_get (D := (dC, dI)) (ci := 2) (v := .int (P_0 1 0)) (C := RX2) (T := TX2) (N := 3) hx hb hts hin2 hown hK hP 0 rfl rfl 1 (by decide) (hts (.fieldLink RX2 15 "FeedDesk$Patch" "length" "I") (List.mem_of_getElem? (i := 2) rfl)) (fun _ h9 => h9) rfl dX2_skipSpaces_5 ?_
      refine lv_icmp_ge (tgt := 38) hx hb dX2_skipSpaces_8 (by decide) (fun c1 => ?_) (fun c1 => ?_)
      · rw [if_pos c1] at hR
        exact W.vret hx hb hr (fun t ht hWw => ⟨⟨P_0, rfl, ⟨hR.symm.trans eR, hp_0⟩, by rw [ht]; exact hP, hD⟩, hS.F ht⟩) hS.2.2 dX2_skipSpaces_38
      · rw [if_neg c1] at hR
        refine lv_aload_n hx hb dX2_skipSpaces_11 rfl (lv_at hl 0 rfl) ?_
        refine va_get (D := (dC, dI)) (ci := 2) (v := .ref (a 1)) (C := RX2) (T := TX2) (N := 3) hx hb hts hin2 hown hK hP 0 rfl rfl 0 (by decide) (hts (.fieldLink RX2 9 "FeedDesk$Patch" "text" "[C") (List.mem_of_getElem? (i := 3) rfl)) (fun _ h9 => h9) rfl dX2_skipSpaces_12 ?_
        refine lv_aload_n hx hb dX2_skipSpaces_15 rfl (lv_at hl 0 rfl) ?_
        refine va_get (D := (dC, dI)) (ci := 2) (v := .int (P_0 1 1)) (C := RX2) (T := TX2) (N := 3) hx hb hts hin2 hown hK hP 0 rfl rfl 2 (by decide) (hts (.fieldLink RX2 19 "FeedDesk$Patch" "at" "I") (List.mem_of_getElem? (i := 1) rfl)) (fun _ h9 => h9) rfl dX2_skipSpaces_16 ?_
        refine va_cald (f := P_0 0) hx hb hK hP 1 1 rfl rfl (wfp_in hp_0 c1) dX2_skipSpaces_19 ?_
        refine lv_bipush (v := 32) hx hb dX2_skipSpaces_20 (by decide) ?_
        refine lv_icmp_ne (tgt := 38) hx hb dX2_skipSpaces_22 (by decide) (fun c2 => ?_) (fun c2 => ?_)
        · rw [if_neg c2] at hR
          exact W.vret hx hb hr (fun t ht hWw => ⟨⟨P_0, rfl, ⟨hR.symm.trans eR, hp_0⟩, by rw [ht]; exact hP, hD⟩, hS.F ht⟩) hS.2.2 dX2_skipSpaces_38
        · rw [if_pos c2] at hR
          refine lv_aload_n hx hb dX2_skipSpaces_25 rfl (lv_at hl 0 rfl) ?_
          refine lv_dup hx hb dX2_skipSpaces_26 rfl ?_
          refine va_get (D := (dC, dI)) (ci := 2) (v := .int (P_0 1 1)) (C := RX2) (T := TX2) (N := 3) hx hb hts hin2 hown hK hP 0 rfl rfl 2 (by decide) (hts (.fieldLink RX2 19 "FeedDesk$Patch" "at" "I") (List.mem_of_getElem? (i := 1) rfl)) (fun _ h9 => h9) rfl dX2_skipSpaces_27 ?_
          refine lv_iconst (v := 1) hx hb dX2_skipSpaces_30 (by decide) ?_
          refine lv_iadd hx hb dX2_skipSpaces_31 ?_
          refine va_put (D := (dC, dI)) (ci := 2) (v := .int ((P_0 1 1) + 1)) (ty := .int) (C := RX2) (T := TX2) (N := 3) hx hb hts hin2 tyX2 tyX2_ok nmX2 hown hK hP hD hS 0 rfl rfl 2 (by decide) (hts (.fieldLink RX2 19 "FeedDesk$Patch" "at" "I") (List.mem_of_getElem? (i := 1) rfl)) (fun _ h9 => h9) rfl (by decide +kernel) rfl rfl (Nat.le_of_ble_eq_true rfl) dX2_skipSpaces_32 (fun H3 locs hP hD hS => ?_)
          have hP : va_P (dC, dI) vwCl (cPt a cC (sU P_0 1 1 ((P_0 1 1) + 1))) H3 := hP
          have hD : va_D (va_A (cPt a cC P) s.heap.size) (cPt a cC (sU P_0 1 1 ((P_0 1 1) + 1))) := hD
          obtain ⟨Pn4, ePn4⟩ : ∃ z : SR, z = sU P_0 1 1 ((P_0 1 1) + 1) := ⟨_, rfl⟩
          rw [sLet_eq, ← ePn4] at hR
          rw [← ePn4] at hP hD
          have hp5 : WFP Pn4 := (by rw [ePn4]; exact wfp_inc hp_0 c1)
          refine lv_goto (tgt := 0) hx hb dX2_skipSpaces_35 (by decide) ?_
          exact ih_0 Pn4 (by rw [ePn4]; exact ms_back (ms_inc hp_0 c1) hm_0) hp5 hR _ _ _ hP hD hS (lv_sub hl [0] rfl)
  exact hL_0 142 P (ms_lt hp) hp hR _ _ _ hP hD hS (lv_sub hl [0] rfl)
abbrev rm_X2_takes : Room := { frames := 1, cells := 0, slots := 0, locals := 20 }
def f_X2_takes (P : SR) (p1 : Int32) : Int32 × SR := sLet ((f_X2_skipSpaces P)) (fun Pn4 : SR => (if (Pn4 1 0) ≤ (Pn4 1 1) then (0, Pn4) else (if (Pn4 0 (Pn4 1 1).toNatClampNeg) = p1 then sLet (sU Pn4 1 1 ((Pn4 1 1) + 1)) (fun Pn9 : SR => (1, Pn9)) else (0, Pn4))))
set_option maxHeartbeats 4000000 in
set_option maxRecDepth 100000 in
theorem c_X2_takes (l : Launch) (dC : Nat → ClassId) (dI : Nat → Nat → Nat) (cI cC cS : ClassId) (a : Nat → Nat) (P : SR) (sz : Nat) (p1 : Int32) (hp : WFP P) : Met l yX2_takes wsX2_takes rm_X2_takes (PcG (dC, dI) (tyL cI cC cS) (cPt a cC P) sz [.ref (a 0), .int p1]) (va_Qi (fun (r : Int32) (u : SR) => (r, u) = f_X2_takes P p1 ∧ (WFP u) ∧ (r = 0 ∨ r = 1)) (fun u U => va_P (dC, dI) vwCl (cPt a cC u) U.heap ∧ va_D (va_A (cPt a cC P) sz) (cPt a cC u)) (va_A (cPt a cC P) sz)) 0 0 (va_A (cPt a cC P) sz) := by
  refine Met.ofW (cc := cX2_takes) (maxL := 2) (ret := (some .boolean)) (by decide) rfl ?_
  intro p e s m args below meth c s₁ B hml hv
  obtain ⟨rfl, hsz, hP, hK, hD0, hN⟩ := hv
  have hx := B.exec
  have hb := B.bytes
  have hr := B.returns
  have hts := atoms_spec (ws := wsX2_takes) B.pre
  have hown : s.vm.findClass RX2 = some m.cls := findClass_of_methodNamed B.named
  have hlocks := B.notSynchronized
  subst hsz
  have hD := hD0.self (sz := s.heap.size)
  have hA : ∀ q : Nat, s.heap.size ≤ q → (va_A (cPt a cC P) s.heap.size) q := fun q h => Or.inr h
  have hS : va_S (va_A (cPt a cC P) s.heap.size) s.heap s.heap [] := va_S.rf
  have hin2 : ∀ w ∈ wsX20, w ∈ wsX2_takes := fun _ h => List.mem_cons_of_mem _ (List.mem_append_right _ h)
  have hl := lv_entry [.ref (a 0), .int p1] (n := 2) (Nat.le_of_ble_eq_true rfl)
  rw [lg_entry_eq]
  generalize (lg_sl [.ref (a 0), .int p1] ++ List.replicate (2 - (lg_sl [.ref (a 0), .int p1]).length) Slot.unset).toArray = ls at hl ⊢
  have hl : lv_has ls 2 [(0, .ref (a 0)), (1, .int p1)] := hl
  obtain ⟨R0, eR⟩ : ∃ z, z = f_X2_takes P p1 := ⟨_, rfl⟩
  have hR := eR
  rw [f_X2_takes] at hR
  refine lv_aload_n hx hb dX2_takes_0 rfl (lv_at hl 0 rfl) ?_
  have hPc : va_P (dC, dI) vwCl (cPt a cC P) s.heap := hP.sub [0, 1] rfl
  have hDc : va_D (va_A (cPt a cC P) s.heap.size) (cPt a cC P) := hD.sub [0, 1] (by decide) rfl
  have hFc : ∀ q : Nat, va_A (cPt a cC P) s.heap.size q → (va_A (cPt a cC P) s.heap.size) q := va_free hD hS hA [0, 1] rfl
  refine va_callv (va_runV (As := []) (rest := []) ⟨hx, hb, hml, hown, hts⟩ (c_X2_skipSpaces l dC dI cI cC cS a P s.heap.size hp) (cwV 0 hts gX2_takes_X2_skipSpaces rfl rfl rfl (by decide +kernel) ⟨Nat.le_of_ble_eq_true rfl, Nat.le_of_ble_eq_true rfl⟩) (pV (q0 := 0) hK hPc hDc hN rfl rfl) rfl rfl hl.1 rfl (lv_room (Nat.le_of_ble_eq_true rfl)) dX2_takes_1 ⟨Nat.le_of_ble_eq_true rfl, Nat.le_of_ble_eq_true rfl⟩) hS (fun q _ h => hFc q h) hFc (fun u_1 t_1 H2 locs ht hvm hw hB hz1 hk1 hS => ?_)
  obtain ⟨hw, hens3⟩ := hw
  obtain ⟨hP1, hD1⟩ := hB
  rw [ht] at hP1
  subst hw
  obtain ⟨hP, hD⟩ := va_join (wc := cPt a cC P) (wr := []) (w1 := cPt a cC (f_X2_skipSpaces P)) hP hD [0, 1] [] rfl rfl (by decide) (by decide) hk1 hFc hP1 hD1
  have hP : va_P (dC, dI) vwCl (cPt a cC (f_X2_skipSpaces P)) H2 := hP.sub [0, 1] rfl
  have hD : va_D (va_A (cPt a cC P) s.heap.size) (cPt a cC (f_X2_skipSpaces P)) := hD.sub [0, 1] (by decide) rfl
  obtain ⟨Pn4, ePn4⟩ : ∃ z : SR, z = (f_X2_skipSpaces P) := ⟨_, rfl⟩
  rw [sLet_eq, ← ePn4] at hR
  rw [← ePn4] at hP hD
  have hp5 : WFP Pn4 := by rw [ePn4]; exact hens3
  refine lv_aload_n hx hb dX2_takes_4 rfl (lv_at hl 0 rfl) ?_
  refine va_get (D := (dC, dI)) (ci := 2) (v := .int (Pn4 1 1)) (C := RX2) (T := TX2) (N := 3) hx hb hts hin2 hown hK hP 0 rfl rfl 2 (by decide) (hts (.fieldLink RX2 19 "FeedDesk$Patch" "at" "I") (List.mem_of_getElem? (i := 1) rfl)) (fun _ h9 => h9) rfl dX2_takes_5 ?_
  refine lv_aload_n hx hb dX2_takes_8 rfl (lv_at hl 0 rfl) ?_
  refine va_get (D := (dC, dI)) (ci := 2) (v := .int (Pn4 1 0)) (C := RX2) (T := TX2) (N := 3) hx hb hts hin2 hown hK hP 0 rfl rfl 1 (by decide) (hts (.fieldLink RX2 15 "FeedDesk$Patch" "length" "I") (List.mem_of_getElem? (i := 2) rfl)) (fun _ h9 => h9) rfl dX2_takes_9 ?_
  refine lv_icmp_ge (tgt := 28) hx hb dX2_takes_12 (by decide) (fun c6 => ?_) (fun c6 => ?_)
  · rw [if_pos c6] at hR
    refine lv_iconst (v := 0) hx hb dX2_takes_28 (by decide) ?_
    exact W.zret (v := 0) hx hb hr rfl (fun t ht hWw => ⟨⟨0, Pn4, rfl, ⟨hR.symm.trans eR, hp5, (Or.inl rfl)⟩, by rw [ht]; exact hP, hD⟩, hS.F ht⟩) hS.2.2 dX2_takes_29
  · rw [if_neg c6] at hR
    refine lv_aload_n hx hb dX2_takes_15 rfl (lv_at hl 0 rfl) ?_
    refine va_get (D := (dC, dI)) (ci := 2) (v := .ref (a 1)) (C := RX2) (T := TX2) (N := 3) hx hb hts hin2 hown hK hP 0 rfl rfl 0 (by decide) (hts (.fieldLink RX2 9 "FeedDesk$Patch" "text" "[C") (List.mem_of_getElem? (i := 3) rfl)) (fun _ h9 => h9) rfl dX2_takes_16 ?_
    refine lv_aload_n hx hb dX2_takes_19 rfl (lv_at hl 0 rfl) ?_
    refine va_get (D := (dC, dI)) (ci := 2) (v := .int (Pn4 1 1)) (C := RX2) (T := TX2) (N := 3) hx hb hts hin2 hown hK hP 0 rfl rfl 2 (by decide) (hts (.fieldLink RX2 19 "FeedDesk$Patch" "at" "I") (List.mem_of_getElem? (i := 1) rfl)) (fun _ h9 => h9) rfl dX2_takes_20 ?_
    refine va_cald (f := Pn4 0) hx hb hK hP 1 1 rfl rfl (wfp_in hp5 c6) dX2_takes_23 ?_
    refine lv_iload_n hx hb dX2_takes_24 rfl (lv_at hl 1 rfl) ?_
    refine lv_icmp_eq (tgt := 30) hx hb dX2_takes_25 (by decide) (fun c7 => ?_) (fun c7 => ?_)
    · rw [if_pos c7] at hR
      refine lv_aload_n hx hb dX2_takes_30 rfl (lv_at hl 0 rfl) ?_
      refine lv_dup hx hb dX2_takes_31 rfl ?_
      refine va_get (D := (dC, dI)) (ci := 2) (v := .int (Pn4 1 1)) (C := RX2) (T := TX2) (N := 3) hx hb hts hin2 hown hK hP 0 rfl rfl 2 (by decide) (hts (.fieldLink RX2 19 "FeedDesk$Patch" "at" "I") (List.mem_of_getElem? (i := 1) rfl)) (fun _ h9 => h9) rfl dX2_takes_32 ?_
      refine lv_iconst (v := 1) hx hb dX2_takes_35 (by decide) ?_
      refine lv_iadd hx hb dX2_takes_36 ?_
      refine va_put (D := (dC, dI)) (ci := 2) (v := .int ((Pn4 1 1) + 1)) (ty := .int) (C := RX2) (T := TX2) (N := 3) hx hb hts hin2 tyX2 tyX2_ok nmX2 hown hK hP hD hS 0 rfl rfl 2 (by decide) (hts (.fieldLink RX2 19 "FeedDesk$Patch" "at" "I") (List.mem_of_getElem? (i := 1) rfl)) (fun _ h9 => h9) rfl (by decide +kernel) rfl rfl (Nat.le_of_ble_eq_true rfl) dX2_takes_37 (fun H8 locs hP hD hS => ?_)
      have hP : va_P (dC, dI) vwCl (cPt a cC (sU Pn4 1 1 ((Pn4 1 1) + 1))) H8 := hP
      have hD : va_D (va_A (cPt a cC P) s.heap.size) (cPt a cC (sU Pn4 1 1 ((Pn4 1 1) + 1))) := hD
      obtain ⟨Pn9, ePn9⟩ : ∃ z : SR, z = sU Pn4 1 1 ((Pn4 1 1) + 1) := ⟨_, rfl⟩
      rw [sLet_eq, ← ePn9] at hR
      rw [← ePn9] at hP hD
      have hp10 : WFP Pn9 := (by rw [ePn9]; exact wfp_inc hp5 c6)
      refine lv_iconst (v := 1) hx hb dX2_takes_40 (by decide) ?_
      exact W.zret (v := 1) hx hb hr rfl (fun t ht hWw => ⟨⟨1, Pn9, rfl, ⟨hR.symm.trans eR, hp10, (Or.inr rfl)⟩, by rw [ht]; exact hP, hD⟩, hS.F ht⟩) hS.2.2 dX2_takes_41
    · rw [if_neg c7] at hR
      refine lv_iconst (v := 0) hx hb dX2_takes_28 (by decide) ?_
      exact W.zret (v := 0) hx hb hr rfl (fun t ht hWw => ⟨⟨0, Pn4, rfl, ⟨hR.symm.trans eR, hp5, (Or.inl rfl)⟩, by rw [ht]; exact hP, hD⟩, hS.F ht⟩) hS.2.2 dX2_takes_29
abbrev rm_X2_readNumber : Room := { frames := 1, cells := 0, slots := 0, locals := 21 }
def f_X2_readNumber_p112 (p1 : Int32)  (x2_112 : Int32) (x3_112 : Int32) (s0_112 : Int32) (P_112 : SR) : Int32 × SR := (if p1 < x3_112 then sLet (sU P_112 1 1 x2_112) (fun Pn9 : SR => ((-1), Pn9)) else (if s0_112 = 0 then (x3_112, P_112) else sLet (sU P_112 1 1 x2_112) (fun Pn13 : SR => ((-1), Pn13))))
def f_X2_readNumber_p111 (p1 : Int32)  (x2_111 : Int32) (x3_111 : Int32)  (P_111 : SR) : Int32 × SR := f_X2_readNumber_p112 p1 x2_111 x3_111 0 P_111
def f_X2_readNumber_p76 (p1 : Int32)  (x2_76 : Int32) (x3_76 : Int32)  (P_76 : SR) : Int32 × SR := (if (P_76 1 1) = x2_76 then ((-1), P_76) else (if ((P_76 1 1) - x2_76) ≤ 1 then f_X2_readNumber_p111 p1 x2_76 x3_76 P_76 else (if (P_76 0 x2_76.toNatClampNeg) = 48 then f_X2_readNumber_p112 p1 x2_76 x3_76 1 P_76 else f_X2_readNumber_p111 p1 x2_76 x3_76 P_76)))
def f_X2_readNumber_p11 (p1 : Int32)  : Nat → Int32 → Int32 → SR → (Int32 × SR)
  | 0, _, _, P_11 => (0, P_11)
  | n_11 + 1, x2_11, x3_11, P_11 => (if (P_11 1 0) ≤ (P_11 1 1) then f_X2_readNumber_p76 p1 x2_11 x3_11 P_11 else (if (f_X5_isBelow ((P_11 0 (P_11 1 1).toNatClampNeg) - 48) 10) = 0 then f_X2_readNumber_p76 p1 x2_11 x3_11 P_11 else sLet (sU P_11 1 1 ((P_11 1 1) + 1)) (fun Pn23 : SR => (f_X2_readNumber_p11 p1 n_11) x2_11 (if 9999 < ((10 * x3_11) + ((P_11 0 (P_11 1 1).toNatClampNeg) - 48)) then 9999 else ((10 * x3_11) + ((P_11 0 (P_11 1 1).toNatClampNeg) - 48))) Pn23)))
def f_X2_readNumber (P : SR) (p1 : Int32) : Int32 × SR := sLet ((f_X2_skipSpaces P)) (fun Pn4 : SR => f_X2_readNumber_p11 p1 142 (Pn4 1 1) 0 Pn4)
set_option maxHeartbeats 4000000 in
set_option maxRecDepth 100000 in
theorem c_X2_readNumber (l : Launch) (dC : Nat → ClassId) (dI : Nat → Nat → Nat) (cI cC cS : ClassId) (a : Nat → Nat) (P : SR) (sz : Nat) (p1 : Int32) (hp : WFP P) : Met l yX2_readNumber wsX2_readNumber rm_X2_readNumber (PcG (dC, dI) (tyL cI cC cS) (cPt a cC P) sz [.ref (a 0), .int p1]) (va_Qi (fun (r : Int32) (u : SR) => (r, u) = f_X2_readNumber P p1 ∧ (WFP u) ∧ (rdOK r p1)) (fun u U => va_P (dC, dI) vwCl (cPt a cC u) U.heap ∧ va_D (va_A (cPt a cC P) sz) (cPt a cC u)) (va_A (cPt a cC P) sz)) 0 0 (va_A (cPt a cC P) sz) := by
  refine Met.ofW (cc := cX2_readNumber) (maxL := 5) (ret := (some .int)) (by decide) rfl ?_
  intro p e s m args below meth c s₁ B hml hv
  obtain ⟨rfl, hsz, hP, hK, hD0, hN⟩ := hv
  have hx := B.exec
  have hb := B.bytes
  have hr := B.returns
  have hts := atoms_spec (ws := wsX2_readNumber) B.pre
  have hown : s.vm.findClass RX2 = some m.cls := findClass_of_methodNamed B.named
  have hlocks := B.notSynchronized
  subst hsz
  have hD := hD0.self (sz := s.heap.size)
  have hA : ∀ q : Nat, s.heap.size ≤ q → (va_A (cPt a cC P) s.heap.size) q := fun q h => Or.inr h
  have hS : va_S (va_A (cPt a cC P) s.heap.size) s.heap s.heap [] := va_S.rf
  have hin2 : ∀ w ∈ wsX20, w ∈ wsX2_readNumber := fun _ h => List.mem_cons_of_mem _ (List.mem_append_right _ h)
  have hl := lv_entry [.ref (a 0), .int p1] (n := 5) (Nat.le_of_ble_eq_true rfl)
  rw [lg_entry_eq]
  generalize (lg_sl [.ref (a 0), .int p1] ++ List.replicate (5 - (lg_sl [.ref (a 0), .int p1]).length) Slot.unset).toArray = ls at hl ⊢
  have hl : lv_has ls 5 [(0, .ref (a 0)), (1, .int p1)] := hl
  obtain ⟨R0, eR⟩ : ∃ z, z = f_X2_readNumber P p1 := ⟨_, rfl⟩
  have hR := eR
  rw [f_X2_readNumber] at hR
  refine lv_aload_n hx hb dX2_readNumber_0 rfl (lv_at hl 0 rfl) ?_
  have hPc : va_P (dC, dI) vwCl (cPt a cC P) s.heap := hP.sub [0, 1] rfl
  have hDc : va_D (va_A (cPt a cC P) s.heap.size) (cPt a cC P) := hD.sub [0, 1] (by decide) rfl
  have hFc : ∀ q : Nat, va_A (cPt a cC P) s.heap.size q → (va_A (cPt a cC P) s.heap.size) q := va_free hD hS hA [0, 1] rfl
  refine va_callv (va_runV (As := []) (rest := []) ⟨hx, hb, hml, hown, hts⟩ (c_X2_skipSpaces l dC dI cI cC cS a P s.heap.size hp) (cwV 0 hts gX2_readNumber_X2_skipSpaces rfl rfl rfl (by decide +kernel) ⟨Nat.le_of_ble_eq_true rfl, Nat.le_of_ble_eq_true rfl⟩) (pV (q0 := 0) hK hPc hDc hN rfl rfl) rfl rfl hl.1 rfl (lv_room (Nat.le_of_ble_eq_true rfl)) dX2_readNumber_1 ⟨Nat.le_of_ble_eq_true rfl, Nat.le_of_ble_eq_true rfl⟩) hS (fun q _ h => hFc q h) hFc (fun u_1 t_1 H2 locs ht hvm hw hB hz1 hk1 hS => ?_)
  obtain ⟨hw, hens3⟩ := hw
  obtain ⟨hP1, hD1⟩ := hB
  rw [ht] at hP1
  subst hw
  obtain ⟨hP, hD⟩ := va_join (wc := cPt a cC P) (wr := []) (w1 := cPt a cC (f_X2_skipSpaces P)) hP hD [0, 1] [] rfl rfl (by decide) (by decide) hk1 hFc hP1 hD1
  have hP : va_P (dC, dI) vwCl (cPt a cC (f_X2_skipSpaces P)) H2 := hP.sub [0, 1] rfl
  have hD : va_D (va_A (cPt a cC P) s.heap.size) (cPt a cC (f_X2_skipSpaces P)) := hD.sub [0, 1] (by decide) rfl
  obtain ⟨Pn4, ePn4⟩ : ∃ z : SR, z = (f_X2_skipSpaces P) := ⟨_, rfl⟩
  rw [sLet_eq, ← ePn4] at hR
  rw [← ePn4] at hP hD
  have hp5 : WFP Pn4 := by rw [ePn4]; exact hens3
  refine lv_aload_n hx hb dX2_readNumber_4 rfl (lv_at hl 0 rfl) ?_
  refine va_get (D := (dC, dI)) (ci := 2) (v := .int (Pn4 1 1)) (C := RX2) (T := TX2) (N := 3) hx hb hts hin2 hown hK hP 0 rfl rfl 2 (by decide) (hts (.fieldLink RX2 19 "FeedDesk$Patch" "at" "I") (List.mem_of_getElem? (i := 1) rfl)) (fun _ h9 => h9) rfl dX2_readNumber_5 ?_
  refine lv_istore_n (lv' := [(2, .int (Pn4 1 1)), (0, .ref (a 0)), (1, .int p1)]) hx hb dX2_readNumber_8 rfl hl (by decide) rfl (fun ls hl => ?_)
  refine lv_iconst (v := 0) hx hb dX2_readNumber_9 (by decide) ?_
  refine lv_istore_n (lv' := [(3, .int 0), (2, .int (Pn4 1 1)), (0, .ref (a 0)), (1, .int p1)]) hx hb dX2_readNumber_10 rfl hl (by decide) rfl (fun ls hl => ?_)
  have hL_11 : ∀ n_11 : Nat,  ∀ (x2_11 : Int32) (x3_11 : Int32) (P_11 : SR), ms P_11 < n_11 → WFP P_11 → FK x2_11 P_11 → vp_in x3_11 10000 → R0 = f_X2_readNumber_p11 p1 n_11 x2_11 x3_11 P_11 → ∀ (H : Heap) (locs : List Loc) (ls : Array Slot), va_P (dC, dI) vwCl (cPt a cC P_11) H → va_D (va_A (cPt a cC P) s.heap.size) (cPt a cC P_11) → va_S (va_A (cPt a cC P) s.heap.size) s.heap H locs → lv_has ls 5 [(0, .ref (a 0)), (1, .int p1), (2, .int x2_11), (3, .int x3_11)] → W p l e (headSpec wsX2_readNumber rm_X2_readNumber).room s m ([.ref (a 0), .int p1] : List Value).toArray below meth c H locs 0 0 (MQ below (va_Qi (fun (r : Int32) (u : SR) => (r, u) = f_X2_readNumber P p1 ∧ (WFP u) ∧ (rdOK r p1)) (fun u U => va_P (dC, dI) vwCl (cPt a cC u) U.heap ∧ va_D (va_A (cPt a cC P) s.heap.size) (cPt a cC u)) (va_A (cPt a cC P) s.heap.size)) ([.ref (a 0), .int p1] : List Value).toArray s 0 0 (va_A (cPt a cC P) s.heap.size)) (F0 m 11 ls []) := by
    intro n_11
    induction n_11 with
    | zero =>
      intro  x2_11 x3_11 P_11 hm_11 hp_11 hf_11 hv_11
      exact absurd hm_11 (Nat.not_lt_zero _)
    | succ n_11 ih_11 =>
      intro  x2_11 x3_11 P_11 hm_11 hp_11 hf_11 hv_11 hR H locs ls hP hD hS hl
      rw [f_X2_readNumber_p11] at hR
      refine lv_aload_n hx hb dX2_readNumber_11 rfl (lv_at hl 0 rfl) ?_
      refine va_get (D := (dC, dI)) (ci := 2) (v := .int (P_11 1 1)) (C := RX2) (T := TX2) (N := 3) hx hb hts hin2 hown hK hP 0 rfl rfl 2 (by decide) (hts (.fieldLink RX2 19 "FeedDesk$Patch" "at" "I") (List.mem_of_getElem? (i := 1) rfl)) (fun _ h9 => h9) rfl dX2_readNumber_12 ?_
      refine lv_aload_n hx hb dX2_readNumber_15 rfl (lv_at hl 0 rfl) ?_
      refine va_get (D := (dC, dI)) (ci := 2) (v := .int (P_11 1 0)) (C := RX2) (T := TX2) (N := 3) hx hb hts hin2 hown hK hP 0 rfl rfl 1 (by decide) (hts (.fieldLink RX2 15 "FeedDesk$Patch" "length" "I") (List.mem_of_getElem? (i := 2) rfl)) (fun _ h9 => h9) rfl dX2_readNumber_16 ?_
      have hJ_76 : ∀ (x2_76 : Int32) (x3_76 : Int32)  (P_76 : SR), WFP P_76 → FK x2_76 P_76 → vp_in x3_76 10000 → R0 = f_X2_readNumber_p76 p1 x2_76 x3_76 P_76 → ∀ (H : Heap) (locs : List Loc) (ls : Array Slot), va_P (dC, dI) vwCl (cPt a cC P_76) H → va_D (va_A (cPt a cC P) s.heap.size) (cPt a cC P_76) → va_S (va_A (cPt a cC P) s.heap.size) s.heap H locs → lv_has ls 5 [(0, .ref (a 0)), (1, .int p1), (2, .int x2_76), (3, .int x3_76)] → W p l e (headSpec wsX2_readNumber rm_X2_readNumber).room s m ([.ref (a 0), .int p1] : List Value).toArray below meth c H locs 0 0 (MQ below (va_Qi (fun (r : Int32) (u : SR) => (r, u) = f_X2_readNumber P p1 ∧ (WFP u) ∧ (rdOK r p1)) (fun u U => va_P (dC, dI) vwCl (cPt a cC u) U.heap ∧ va_D (va_A (cPt a cC P) s.heap.size) (cPt a cC u)) (va_A (cPt a cC P) s.heap.size)) ([.ref (a 0), .int p1] : List Value).toArray s 0 0 (va_A (cPt a cC P) s.heap.size)) (F0 m 76 ls []) := by
        intro x2_76 x3_76 P_76 hp_76 hf_76 hv_76 hR H locs ls hP hD hS hl
        rw [f_X2_readNumber_p76] at hR
        refine lv_aload_n hx hb dX2_readNumber_76 rfl (lv_at hl 0 rfl) ?_
        refine va_get (D := (dC, dI)) (ci := 2) (v := .int (P_76 1 1)) (C := RX2) (T := TX2) (N := 3) hx hb hts hin2 hown hK hP 0 rfl rfl 2 (by decide) (hts (.fieldLink RX2 19 "FeedDesk$Patch" "at" "I") (List.mem_of_getElem? (i := 1) rfl)) (fun _ h9 => h9) rfl dX2_readNumber_77 ?_
        refine lv_iload_n hx hb dX2_readNumber_80 rfl (lv_at hl 2 rfl) ?_
        refine lv_icmp_ne (tgt := 86) hx hb dX2_readNumber_81 (by decide) (fun c6 => ?_) (fun c6 => ?_)
        · rw [if_neg c6] at hR
          refine lv_aload_n hx hb dX2_readNumber_86 rfl (lv_at hl 0 rfl) ?_
          refine va_get (D := (dC, dI)) (ci := 2) (v := .int (P_76 1 1)) (C := RX2) (T := TX2) (N := 3) hx hb hts hin2 hown hK hP 0 rfl rfl 2 (by decide) (hts (.fieldLink RX2 19 "FeedDesk$Patch" "at" "I") (List.mem_of_getElem? (i := 1) rfl)) (fun _ h9 => h9) rfl dX2_readNumber_87 ?_
          refine lv_iload_n hx hb dX2_readNumber_90 rfl (lv_at hl 2 rfl) ?_
          refine lv_isub hx hb dX2_readNumber_91 ?_
          refine lv_iconst (v := 1) hx hb dX2_readNumber_92 (by decide) ?_
          have hJ_112 : ∀ (x2_112 : Int32) (x3_112 : Int32) (s0_112 : Int32) (P_112 : SR), WFP P_112 → FK x2_112 P_112 → vp_in x3_112 10000 → R0 = f_X2_readNumber_p112 p1 x2_112 x3_112 s0_112 P_112 → ∀ (H : Heap) (locs : List Loc) (ls : Array Slot), va_P (dC, dI) vwCl (cPt a cC P_112) H → va_D (va_A (cPt a cC P) s.heap.size) (cPt a cC P_112) → va_S (va_A (cPt a cC P) s.heap.size) s.heap H locs → lv_has ls 5 [(0, .ref (a 0)), (1, .int p1), (2, .int x2_112), (3, .int x3_112)] → W p l e (headSpec wsX2_readNumber rm_X2_readNumber).room s m ([.ref (a 0), .int p1] : List Value).toArray below meth c H locs 0 0 (MQ below (va_Qi (fun (r : Int32) (u : SR) => (r, u) = f_X2_readNumber P p1 ∧ (WFP u) ∧ (rdOK r p1)) (fun u U => va_P (dC, dI) vwCl (cPt a cC u) U.heap ∧ va_D (va_A (cPt a cC P) s.heap.size) (cPt a cC u)) (va_A (cPt a cC P) s.heap.size)) ([.ref (a 0), .int p1] : List Value).toArray s 0 0 (va_A (cPt a cC P) s.heap.size)) (F0 m 112 ls [.int s0_112]) := by
            intro x2_112 x3_112 s0_112 P_112 hp_112 hf_112 hv_112 hR H locs ls hP hD hS hl
            rw [f_X2_readNumber_p112] at hR
            refine lv_istore (lv' := [(4, .int s0_112), (0, .ref (a 0)), (1, .int p1), (2, .int x2_112), (3, .int x3_112)]) hx hb dX2_readNumber_112 hl (by decide) rfl (fun ls hl => ?_)
            refine lv_iload_n hx hb dX2_readNumber_114 rfl (lv_at hl 4 rfl) ?_
            refine lv_iload_n hx hb dX2_readNumber_115 rfl (lv_at hl 2 rfl) ?_
            refine lv_icmp_gt (tgt := 126) hx hb dX2_readNumber_116 (by decide) (fun c7 => ?_) (fun c7 => ?_)
            · rw [if_pos c7] at hR
              refine lv_aload_n hx hb dX2_readNumber_126 rfl (lv_at hl 1 rfl) ?_
              refine lv_iload_n hx hb dX2_readNumber_127 rfl (lv_at hl 3 rfl) ?_
              refine va_put (D := (dC, dI)) (ci := 2) (v := .int x2_112) (ty := .int) (C := RX2) (T := TX2) (N := 3) hx hb hts hin2 tyX2 tyX2_ok nmX2 hown hK hP hD hS 0 rfl rfl 2 (by decide) (hts (.fieldLink RX2 19 "FeedDesk$Patch" "at" "I") (List.mem_of_getElem? (i := 1) rfl)) (fun _ h9 => h9) rfl (by decide +kernel) rfl rfl (Nat.le_of_ble_eq_true rfl) dX2_readNumber_128 (fun H8 locs hP hD hS => ?_)
              have hP : va_P (dC, dI) vwCl (cPt a cC (sU P_112 1 1 x2_112)) H8 := hP
              have hD : va_D (va_A (cPt a cC P) s.heap.size) (cPt a cC (sU P_112 1 1 x2_112)) := hD
              obtain ⟨Pn9, ePn9⟩ : ∃ z : SR, z = sU P_112 1 1 x2_112 := ⟨_, rfl⟩
              rw [sLet_eq, ← ePn9] at hR
              rw [← ePn9] at hP hD
              have hp10 : WFP Pn9 := (by rw [ePn9]; exact (fk_first hf_112))
              refine lv_iconst (v := (-1)) hx hb dX2_readNumber_131 (by decide) ?_
              exact W.iret (v := (-1)) hx hb hr (fun t ht hWw => ⟨⟨(-1), Pn9, rfl, ⟨hR.symm.trans eR, hp10, (Or.inl rfl)⟩, by rw [ht]; exact hP, hD⟩, hS.F ht⟩) hS.2.2 dX2_readNumber_132
            · rw [if_neg c7] at hR
              refine lv_iload hx hb dX2_readNumber_119 (lv_at hl 0 rfl) ?_
              refine lv_if_ne (tgt := 126) hx hb dX2_readNumber_121 (by decide) (fun c11 => ?_) (fun c11 => ?_)
              · rw [if_neg c11] at hR
                refine lv_aload_n hx hb dX2_readNumber_126 rfl (lv_at hl 1 rfl) ?_
                refine lv_iload_n hx hb dX2_readNumber_127 rfl (lv_at hl 3 rfl) ?_
                refine va_put (D := (dC, dI)) (ci := 2) (v := .int x2_112) (ty := .int) (C := RX2) (T := TX2) (N := 3) hx hb hts hin2 tyX2 tyX2_ok nmX2 hown hK hP hD hS 0 rfl rfl 2 (by decide) (hts (.fieldLink RX2 19 "FeedDesk$Patch" "at" "I") (List.mem_of_getElem? (i := 1) rfl)) (fun _ h9 => h9) rfl (by decide +kernel) rfl rfl (Nat.le_of_ble_eq_true rfl) dX2_readNumber_128 (fun H12 locs hP hD hS => ?_)
                have hP : va_P (dC, dI) vwCl (cPt a cC (sU P_112 1 1 x2_112)) H12 := hP
                have hD : va_D (va_A (cPt a cC P) s.heap.size) (cPt a cC (sU P_112 1 1 x2_112)) := hD
                obtain ⟨Pn13, ePn13⟩ : ∃ z : SR, z = sU P_112 1 1 x2_112 := ⟨_, rfl⟩
                rw [sLet_eq, ← ePn13] at hR
                rw [← ePn13] at hP hD
                have hp14 : WFP Pn13 := (by rw [ePn13]; exact (fk_first hf_112))
                refine lv_iconst (v := (-1)) hx hb dX2_readNumber_131 (by decide) ?_
                exact W.iret (v := (-1)) hx hb hr (fun t ht hWw => ⟨⟨(-1), Pn13, rfl, ⟨hR.symm.trans eR, hp14, (Or.inl rfl)⟩, by rw [ht]; exact hP, hD⟩, hS.F ht⟩) hS.2.2 dX2_readNumber_132
              · rw [if_pos c11] at hR
                refine lv_iload_n hx hb dX2_readNumber_124 rfl (lv_at hl 4 rfl) ?_
                exact W.iret (v := x3_112) hx hb hr (fun t ht hWw => ⟨⟨x3_112, P_112, rfl, ⟨hR.symm.trans eR, hp_112, (Or.inr ⟨vp_nn hv_112, c7⟩)⟩, by rw [ht]; exact hP, hD⟩, hS.F ht⟩) hS.2.2 dX2_readNumber_125
          have hJ_111 : ∀ (x2_111 : Int32) (x3_111 : Int32)  (P_111 : SR), WFP P_111 → FK x2_111 P_111 → vp_in x3_111 10000 → R0 = f_X2_readNumber_p111 p1 x2_111 x3_111 P_111 → ∀ (H : Heap) (locs : List Loc) (ls : Array Slot), va_P (dC, dI) vwCl (cPt a cC P_111) H → va_D (va_A (cPt a cC P) s.heap.size) (cPt a cC P_111) → va_S (va_A (cPt a cC P) s.heap.size) s.heap H locs → lv_has ls 5 [(0, .ref (a 0)), (1, .int p1), (2, .int x2_111), (3, .int x3_111)] → W p l e (headSpec wsX2_readNumber rm_X2_readNumber).room s m ([.ref (a 0), .int p1] : List Value).toArray below meth c H locs 0 0 (MQ below (va_Qi (fun (r : Int32) (u : SR) => (r, u) = f_X2_readNumber P p1 ∧ (WFP u) ∧ (rdOK r p1)) (fun u U => va_P (dC, dI) vwCl (cPt a cC u) U.heap ∧ va_D (va_A (cPt a cC P) s.heap.size) (cPt a cC u)) (va_A (cPt a cC P) s.heap.size)) ([.ref (a 0), .int p1] : List Value).toArray s 0 0 (va_A (cPt a cC P) s.heap.size)) (F0 m 111 ls []) := by
            intro x2_111 x3_111 P_111 hp_111 hf_111 hv_111 hR H locs ls hP hD hS hl
            rw [f_X2_readNumber_p111] at hR
            refine lv_iconst (v := 0) hx hb dX2_readNumber_111 (by decide) ?_
            exact hJ_112 x2_111 x3_111 0 P_111 hp_111 hf_111 hv_111 hR _ _ _ hP hD hS (lv_sub hl [0, 1, 2, 3] rfl)
          refine lv_icmp_le (tgt := 111) hx hb dX2_readNumber_93 (by decide) (fun c15 => ?_) (fun c15 => ?_)
          · rw [if_pos c15] at hR
            exact hJ_111 x2_76 x3_76 P_76 hp_76 hf_76 hv_76 hR _ _ _ hP hD hS (lv_sub hl [0, 1, 2, 3] rfl)
          · rw [if_neg c15] at hR
            refine lv_aload_n hx hb dX2_readNumber_96 rfl (lv_at hl 0 rfl) ?_
            refine va_get (D := (dC, dI)) (ci := 2) (v := .ref (a 1)) (C := RX2) (T := TX2) (N := 3) hx hb hts hin2 hown hK hP 0 rfl rfl 0 (by decide) (hts (.fieldLink RX2 9 "FeedDesk$Patch" "text" "[C") (List.mem_of_getElem? (i := 3) rfl)) (fun _ h9 => h9) rfl dX2_readNumber_97 ?_
            refine lv_iload_n hx hb dX2_readNumber_100 rfl (lv_at hl 2 rfl) ?_
            refine va_cald (f := P_76 0) hx hb hK hP 1 1 rfl rfl (fk_in hf_76 c15) dX2_readNumber_101 ?_
            refine lv_bipush (v := 48) hx hb dX2_readNumber_102 (by decide) ?_
            refine lv_icmp_ne (tgt := 111) hx hb dX2_readNumber_104 (by decide) (fun c16 => ?_) (fun c16 => ?_)
            · rw [if_neg c16] at hR
              exact hJ_111 x2_76 x3_76 P_76 hp_76 hf_76 hv_76 hR _ _ _ hP hD hS (lv_sub hl [0, 1, 2, 3] rfl)
            · rw [if_pos c16] at hR
              refine lv_iconst (v := 1) hx hb dX2_readNumber_107 (by decide) ?_
              refine lv_goto (tgt := 112) hx hb dX2_readNumber_108 (by decide) ?_
              exact hJ_112 x2_76 x3_76 1 P_76 hp_76 hf_76 hv_76 hR _ _ _ hP hD hS (lv_sub hl [0, 1, 2, 3] rfl)
        · rw [if_pos c6] at hR
          refine lv_iconst (v := (-1)) hx hb dX2_readNumber_84 (by decide) ?_
          exact W.iret (v := (-1)) hx hb hr (fun t ht hWw => ⟨⟨(-1), P_76, rfl, ⟨hR.symm.trans eR, hp_76, (Or.inl rfl)⟩, by rw [ht]; exact hP, hD⟩, hS.F ht⟩) hS.2.2 dX2_readNumber_85
      refine lv_icmp_ge (tgt := 76) hx hb dX2_readNumber_19 (by decide) (fun c17 => ?_) (fun c17 => ?_)
      · rw [if_pos c17] at hR
        exact hJ_76 x2_11 x3_11 P_11 hp_11 hf_11 hv_11 hR _ _ _ hP hD hS (lv_sub hl [0, 1, 2, 3] rfl)
      · rw [if_neg c17] at hR
        refine lv_aload_n hx hb dX2_readNumber_22 rfl (lv_at hl 0 rfl) ?_
        refine va_get (D := (dC, dI)) (ci := 2) (v := .ref (a 1)) (C := RX2) (T := TX2) (N := 3) hx hb hts hin2 hown hK hP 0 rfl rfl 0 (by decide) (hts (.fieldLink RX2 9 "FeedDesk$Patch" "text" "[C") (List.mem_of_getElem? (i := 3) rfl)) (fun _ h9 => h9) rfl dX2_readNumber_23 ?_
        refine lv_aload_n hx hb dX2_readNumber_26 rfl (lv_at hl 0 rfl) ?_
        refine va_get (D := (dC, dI)) (ci := 2) (v := .int (P_11 1 1)) (C := RX2) (T := TX2) (N := 3) hx hb hts hin2 hown hK hP 0 rfl rfl 2 (by decide) (hts (.fieldLink RX2 19 "FeedDesk$Patch" "at" "I") (List.mem_of_getElem? (i := 1) rfl)) (fun _ h9 => h9) rfl dX2_readNumber_27 ?_
        refine va_cald (f := P_11 0) hx hb hK hP 1 1 rfl rfl (wfp_in hp_11 c17) dX2_readNumber_30 ?_
        refine lv_bipush (v := 48) hx hb dX2_readNumber_31 (by decide) ?_
        refine lv_isub hx hb dX2_readNumber_33 ?_
        refine lv_istore (lv' := [(4, .int ((P_11 0 (P_11 1 1).toNatClampNeg) - 48)), (0, .ref (a 0)), (1, .int p1), (2, .int x2_11), (3, .int x3_11)]) hx hb dX2_readNumber_34 hl (by decide) rfl (fun ls hl => ?_)
        refine lv_iload hx hb dX2_readNumber_36 (lv_at hl 0 rfl) ?_
        refine lv_bipush (v := 10) hx hb dX2_readNumber_38 (by decide) ?_
        have hFc : ∀ q : Nat, va_A [] H.size q → (va_A (cPt a cC P) s.heap.size) q := roF hS hA
        refine va_calli (va_runSN (As := [.int ((P_11 0 (P_11 1 1).toNatClampNeg) - 48), .int 10]) (rest := []) ⟨hx, hb, hml, hown, hts⟩ (c_X5_isBelow l dC dI cI cC cS H.size ((P_11 0 (P_11 1 1).toNatClampNeg) - 48) 10) ⟨va_cnB 2 hts gX2_readNumber_X5_isBelow_n74 rfl rfl rfl (hN.at 6 rfl) (hts (.initialized RX5) (List.mem_of_getElem? (i := 14) rfl)) (by decide +kernel) ⟨Nat.le_of_ble_eq_true rfl, Nat.le_of_ble_eq_true rfl⟩, (hts (.static yX5_isBelow) (List.mem_of_getElem? (i := 13) rfl)), trivial⟩ (pS hK (va_P_nil) (va_D_nil) hN) rfl rfl hl.1 rfl (lv_room (Nat.le_of_ble_eq_true rfl)) dX2_readNumber_40 ⟨Nat.le_of_ble_eq_true rfl, Nat.le_of_ble_eq_true rfl⟩) hS (fun q _ h => hFc q h) hFc (fun r_18 u_18 t_18 H19 locs ht hvm hw hB hz1 hk1 hS => ?_)
        obtain ⟨hw, hre20⟩ := hw
        subst hw
        have hP := ro_keep hP hk1
        refine lv_if_ne (tgt := 49) hx hb dX2_readNumber_43 (by decide) (fun c21 => ?_) (fun c21 => ?_)
        · rw [if_neg c21] at hR
          refine lv_bipush (v := 10) hx hb dX2_readNumber_49 (by decide) ?_
          refine lv_iload_n hx hb dX2_readNumber_51 rfl (lv_at hl 4 rfl) ?_
          refine lv_imul hx hb dX2_readNumber_52 ?_
          refine lv_iload hx hb dX2_readNumber_53 (lv_at hl 0 rfl) ?_
          refine lv_iadd hx hb dX2_readNumber_55 ?_
          refine lv_sipush (v := 9999) hx hb dX2_readNumber_56 (by decide) ?_
          refine va_mmin hx hb (hml.trans hl.1.symm) hown (hts (.methodLink RX2 88 Lib.Math.min.name) (List.mem_of_getElem? (i := 4) rfl)) (hts (.static Lib.Math.min.name) (List.mem_of_getElem? (i := 5) rfl)) (hts (.initialized "java/lang/Math") (List.mem_of_getElem? (i := 6) rfl)) (hts (.code Lib.Math.min.name Lib.Math.min.code 2 (some .int)) (List.mem_of_getElem? (i := 7) rfl)) (Nat.le_of_ble_eq_true rfl) (Nat.le_of_ble_eq_true rfl) (Nat.le_of_ble_eq_true rfl) (Nat.le_of_ble_eq_true rfl) dX2_readNumber_59 ?_
          refine lv_istore_n (lv' := [(3, .int (if 9999 < ((10 * x3_11) + ((P_11 0 (P_11 1 1).toNatClampNeg) - 48)) then 9999 else ((10 * x3_11) + ((P_11 0 (P_11 1 1).toNatClampNeg) - 48)))), (4, .int ((P_11 0 (P_11 1 1).toNatClampNeg) - 48)), (0, .ref (a 0)), (1, .int p1), (2, .int x2_11)]) hx hb dX2_readNumber_62 rfl hl (by decide) rfl (fun ls hl => ?_)
          refine lv_aload_n hx hb dX2_readNumber_63 rfl (lv_at hl 2 rfl) ?_
          refine lv_dup hx hb dX2_readNumber_64 rfl ?_
          refine va_get (D := (dC, dI)) (ci := 2) (v := .int (P_11 1 1)) (C := RX2) (T := TX2) (N := 3) hx hb hts hin2 hown hK hP 0 rfl rfl 2 (by decide) (hts (.fieldLink RX2 19 "FeedDesk$Patch" "at" "I") (List.mem_of_getElem? (i := 1) rfl)) (fun _ h9 => h9) rfl dX2_readNumber_65 ?_
          refine lv_iconst (v := 1) hx hb dX2_readNumber_68 (by decide) ?_
          refine lv_iadd hx hb dX2_readNumber_69 ?_
          refine va_put (D := (dC, dI)) (ci := 2) (v := .int ((P_11 1 1) + 1)) (ty := .int) (C := RX2) (T := TX2) (N := 3) hx hb hts hin2 tyX2 tyX2_ok nmX2 hown hK hP hD hS 0 rfl rfl 2 (by decide) (hts (.fieldLink RX2 19 "FeedDesk$Patch" "at" "I") (List.mem_of_getElem? (i := 1) rfl)) (fun _ h9 => h9) rfl (by decide +kernel) rfl rfl (Nat.le_of_ble_eq_true rfl) dX2_readNumber_70 (fun H22 locs hP hD hS => ?_)
          have hP : va_P (dC, dI) vwCl (cPt a cC (sU P_11 1 1 ((P_11 1 1) + 1))) H22 := hP
          have hD : va_D (va_A (cPt a cC P) s.heap.size) (cPt a cC (sU P_11 1 1 ((P_11 1 1) + 1))) := hD
          obtain ⟨Pn23, ePn23⟩ : ∃ z : SR, z = sU P_11 1 1 ((P_11 1 1) + 1) := ⟨_, rfl⟩
          rw [sLet_eq, ← ePn23] at hR
          rw [← ePn23] at hP hD
          have hp24 : WFP Pn23 := (by rw [ePn23]; exact wfp_inc hp_11 c17)
          refine lv_goto (tgt := 11) hx hb dX2_readNumber_73 (by decide) ?_
          exact ih_11 x2_11 (if 9999 < ((10 * x3_11) + ((P_11 0 (P_11 1 1).toNatClampNeg) - 48)) then 9999 else ((10 * x3_11) + ((P_11 0 (P_11 1 1).toNatClampNeg) - 48))) Pn23 (by rw [ePn23]; exact ms_back (ms_inc hp_11 c17) hm_11) hp24 (by rw [ePn23]; exact fk_inc hf_11 c17) (num_in hv_11 (below_vp c21)) hR _ _ _ hP hD hS (lv_sub hl [2, 3, 4, 0] rfl)
        · rw [if_pos c21] at hR
          refine lv_goto (tgt := 76) hx hb dX2_readNumber_46 (by decide) ?_
          exact hJ_76 x2_11 x3_11 P_11 hp_11 hf_11 hv_11 hR _ _ _ hP hD hS (lv_sub hl [1, 2, 3, 4] rfl)
  exact hL_11 142 (Pn4 1 1) 0 Pn4 (ms_lt hp5) hp5 (fk_0 hp5) (vp_of_B (by decide +kernel)) hR _ _ _ hP hD hS (lv_sub hl [2, 3, 1, 0] rfl)
abbrev rm_X2_readGroups : Room := { frames := 1, cells := 0, slots := 0, locals := 21 }
def f_X2_readGroups_p68   (x1_68 : Int32)  (P_68 : SR) : Int32 × SR := (if x1_68 = 0 then ((-1), P_68) else (x1_68, P_68))
def f_X2_readGroups_p6   : Nat → Int32 → SR → (Int32 × SR)
  | 0, _, P_6 => (0, P_6)
  | n_6 + 1, x1_6, P_6 => (if (P_6 1 0) ≤ (P_6 1 1) then f_X2_readGroups_p68 x1_6 P_6 else (if (f_X5_isBelow ((P_6 0 (P_6 1 1).toNatClampNeg) - 48) 4) = 0 then f_X2_readGroups_p68 x1_6 P_6 else (if (f_X5_hasBit x1_6 ((P_6 0 (P_6 1 1).toNatClampNeg) - 48)) = 0 then sLet (sU P_6 1 1 ((P_6 1 1) + 1)) (fun Pn17 : SR => (f_X2_readGroups_p6 n_6) (x1_6 ||| (1 <<< (((P_6 0 (P_6 1 1).toNatClampNeg) - 48) &&& 31))) Pn17) else f_X2_readGroups_p68 x1_6 P_6)))
def f_X2_readGroups (P : SR)  : Int32 × SR := sLet ((f_X2_skipSpaces P)) (fun Pn4 : SR => f_X2_readGroups_p6 142 0 Pn4)
set_option maxHeartbeats 4000000 in
set_option maxRecDepth 100000 in
theorem c_X2_readGroups (l : Launch) (dC : Nat → ClassId) (dI : Nat → Nat → Nat) (cI cC cS : ClassId) (a : Nat → Nat) (P : SR) (sz : Nat)  (hp : WFP P) : Met l yX2_readGroups wsX2_readGroups rm_X2_readGroups (PcG (dC, dI) (tyL cI cC cS) (cPt a cC P) sz [.ref (a 0)]) (va_Qi (fun (r : Int32) (u : SR) => (r, u) = f_X2_readGroups P ∧ (WFP u)) (fun u U => va_P (dC, dI) vwCl (cPt a cC u) U.heap ∧ va_D (va_A (cPt a cC P) sz) (cPt a cC u)) (va_A (cPt a cC P) sz)) 0 0 (va_A (cPt a cC P) sz) := by
  refine Met.ofW (cc := cX2_readGroups) (maxL := 3) (ret := (some .int)) (by decide) rfl ?_
  intro p e s m args below meth c s₁ B hml hv
  obtain ⟨rfl, hsz, hP, hK, hD0, hN⟩ := hv
  have hx := B.exec
  have hb := B.bytes
  have hr := B.returns
  have hts := atoms_spec (ws := wsX2_readGroups) B.pre
  have hown : s.vm.findClass RX2 = some m.cls := findClass_of_methodNamed B.named
  have hlocks := B.notSynchronized
  subst hsz
  have hD := hD0.self (sz := s.heap.size)
  have hA : ∀ q : Nat, s.heap.size ≤ q → (va_A (cPt a cC P) s.heap.size) q := fun q h => Or.inr h
  have hS : va_S (va_A (cPt a cC P) s.heap.size) s.heap s.heap [] := va_S.rf
  have hin2 : ∀ w ∈ wsX20, w ∈ wsX2_readGroups := fun _ h => List.mem_cons_of_mem _ (List.mem_append_right _ h)
  have hl := lv_entry [.ref (a 0)] (n := 3) (Nat.le_of_ble_eq_true rfl)
  rw [lg_entry_eq]
  generalize (lg_sl [.ref (a 0)] ++ List.replicate (3 - (lg_sl [.ref (a 0)]).length) Slot.unset).toArray = ls at hl ⊢
  have hl : lv_has ls 3 [(0, .ref (a 0))] := hl
  obtain ⟨R0, eR⟩ : ∃ z, z = f_X2_readGroups P := ⟨_, rfl⟩
  have hR := eR
  rw [f_X2_readGroups] at hR
  refine lv_aload_n hx hb dX2_readGroups_0 rfl (lv_at hl 0 rfl) ?_
  have hPc : va_P (dC, dI) vwCl (cPt a cC P) s.heap := hP.sub [0, 1] rfl
  have hDc : va_D (va_A (cPt a cC P) s.heap.size) (cPt a cC P) := hD.sub [0, 1] (by decide) rfl
  have hFc : ∀ q : Nat, va_A (cPt a cC P) s.heap.size q → (va_A (cPt a cC P) s.heap.size) q := va_free hD hS hA [0, 1] rfl
  refine va_callv (va_runV (As := []) (rest := []) ⟨hx, hb, hml, hown, hts⟩ (c_X2_skipSpaces l dC dI cI cC cS a P s.heap.size hp) (cwV 0 hts gX2_readGroups_X2_skipSpaces rfl rfl rfl (by decide +kernel) ⟨Nat.le_of_ble_eq_true rfl, Nat.le_of_ble_eq_true rfl⟩) (pV (q0 := 0) hK hPc hDc hN rfl rfl) rfl rfl hl.1 rfl (lv_room (Nat.le_of_ble_eq_true rfl)) dX2_readGroups_1 ⟨Nat.le_of_ble_eq_true rfl, Nat.le_of_ble_eq_true rfl⟩) hS (fun q _ h => hFc q h) hFc (fun u_1 t_1 H2 locs ht hvm hw hB hz1 hk1 hS => ?_)
  obtain ⟨hw, hens3⟩ := hw
  obtain ⟨hP1, hD1⟩ := hB
  rw [ht] at hP1
  subst hw
  obtain ⟨hP, hD⟩ := va_join (wc := cPt a cC P) (wr := []) (w1 := cPt a cC (f_X2_skipSpaces P)) hP hD [0, 1] [] rfl rfl (by decide) (by decide) hk1 hFc hP1 hD1
  have hP : va_P (dC, dI) vwCl (cPt a cC (f_X2_skipSpaces P)) H2 := hP.sub [0, 1] rfl
  have hD : va_D (va_A (cPt a cC P) s.heap.size) (cPt a cC (f_X2_skipSpaces P)) := hD.sub [0, 1] (by decide) rfl
  obtain ⟨Pn4, ePn4⟩ : ∃ z : SR, z = (f_X2_skipSpaces P) := ⟨_, rfl⟩
  rw [sLet_eq, ← ePn4] at hR
  rw [← ePn4] at hP hD
  have hp5 : WFP Pn4 := by rw [ePn4]; exact hens3
  refine lv_iconst (v := 0) hx hb dX2_readGroups_4 (by decide) ?_
  refine lv_istore_n (lv' := [(1, .int 0), (0, .ref (a 0))]) hx hb dX2_readGroups_5 rfl hl (by decide) rfl (fun ls hl => ?_)
  have hL_6 : ∀ n_6 : Nat,  ∀ (x1_6 : Int32) (P_6 : SR), ms P_6 < n_6 → WFP P_6 → R0 = f_X2_readGroups_p6 n_6 x1_6 P_6 → ∀ (H : Heap) (locs : List Loc) (ls : Array Slot), va_P (dC, dI) vwCl (cPt a cC P_6) H → va_D (va_A (cPt a cC P) s.heap.size) (cPt a cC P_6) → va_S (va_A (cPt a cC P) s.heap.size) s.heap H locs → lv_has ls 3 [(0, .ref (a 0)), (1, .int x1_6)] → W p l e (headSpec wsX2_readGroups rm_X2_readGroups).room s m ([.ref (a 0)] : List Value).toArray below meth c H locs 0 0 (MQ below (va_Qi (fun (r : Int32) (u : SR) => (r, u) = f_X2_readGroups P ∧ (WFP u)) (fun u U => va_P (dC, dI) vwCl (cPt a cC u) U.heap ∧ va_D (va_A (cPt a cC P) s.heap.size) (cPt a cC u)) (va_A (cPt a cC P) s.heap.size)) ([.ref (a 0)] : List Value).toArray s 0 0 (va_A (cPt a cC P) s.heap.size)) (F0 m 6 ls []) := by
    intro n_6
    induction n_6 with
    | zero =>
      intro  x1_6 P_6 hm_6 hp_6
      exact absurd hm_6 (Nat.not_lt_zero _)
    | succ n_6 ih_6 =>
      intro  x1_6 P_6 hm_6 hp_6 hR H locs ls hP hD hS hl
      rw [f_X2_readGroups_p6] at hR
      refine lv_aload_n hx hb dX2_readGroups_6 rfl (lv_at hl 0 rfl) ?_
      refine va_get (D := (dC, dI)) (ci := 2) (v := .int (P_6 1 1)) (C := RX2) (T := TX2) (N := 3) hx hb hts hin2 hown hK hP 0 rfl rfl 2 (by decide) (hts (.fieldLink RX2 19 "FeedDesk$Patch" "at" "I") (List.mem_of_getElem? (i := 1) rfl)) (fun _ h9 => h9) rfl dX2_readGroups_7 ?_
      refine lv_aload_n hx hb dX2_readGroups_10 rfl (lv_at hl 0 rfl) ?_
      refine va_get (D := (dC, dI)) (ci := 2) (v := .int (P_6 1 0)) (C := RX2) (T := TX2) (N := 3) hx hb hts hin2 hown hK hP 0 rfl rfl 1 (by decide) (hts (.fieldLink RX2 15 "FeedDesk$Patch" "length" "I") (List.mem_of_getElem? (i := 2) rfl)) (fun _ h9 => h9) rfl dX2_readGroups_11 ?_
      have hJ_68 : ∀ (x1_68 : Int32)  (P_68 : SR), WFP P_68 → R0 = f_X2_readGroups_p68 x1_68 P_68 → ∀ (H : Heap) (locs : List Loc) (ls : Array Slot), va_P (dC, dI) vwCl (cPt a cC P_68) H → va_D (va_A (cPt a cC P) s.heap.size) (cPt a cC P_68) → va_S (va_A (cPt a cC P) s.heap.size) s.heap H locs → lv_has ls 3 [(0, .ref (a 0)), (1, .int x1_68)] → W p l e (headSpec wsX2_readGroups rm_X2_readGroups).room s m ([.ref (a 0)] : List Value).toArray below meth c H locs 0 0 (MQ below (va_Qi (fun (r : Int32) (u : SR) => (r, u) = f_X2_readGroups P ∧ (WFP u)) (fun u U => va_P (dC, dI) vwCl (cPt a cC u) U.heap ∧ va_D (va_A (cPt a cC P) s.heap.size) (cPt a cC u)) (va_A (cPt a cC P) s.heap.size)) ([.ref (a 0)] : List Value).toArray s 0 0 (va_A (cPt a cC P) s.heap.size)) (F0 m 68 ls []) := by
        intro x1_68 P_68 hp_68 hR H locs ls hP hD hS hl
        rw [f_X2_readGroups_p68] at hR
        refine lv_iload_n hx hb dX2_readGroups_68 rfl (lv_at hl 1 rfl) ?_
        refine lv_if_ne (tgt := 76) hx hb dX2_readGroups_69 (by decide) (fun c6 => ?_) (fun c6 => ?_)
        · rw [if_neg c6] at hR
          refine lv_iload_n hx hb dX2_readGroups_76 rfl (lv_at hl 1 rfl) ?_
          exact W.iret (v := x1_68) hx hb hr (fun t ht hWw => ⟨⟨x1_68, P_68, rfl, ⟨hR.symm.trans eR, hp_68⟩, by rw [ht]; exact hP, hD⟩, hS.F ht⟩) hS.2.2 dX2_readGroups_77
        · rw [if_pos c6] at hR
          refine lv_iconst (v := (-1)) hx hb dX2_readGroups_72 (by decide) ?_
          refine lv_goto (tgt := 77) hx hb dX2_readGroups_73 (by decide) ?_
          exact W.iret (v := (-1)) hx hb hr (fun t ht hWw => ⟨⟨(-1), P_68, rfl, ⟨hR.symm.trans eR, hp_68⟩, by rw [ht]; exact hP, hD⟩, hS.F ht⟩) hS.2.2 dX2_readGroups_77
      refine lv_icmp_ge (tgt := 68) hx hb dX2_readGroups_14 (by decide) (fun c7 => ?_) (fun c7 => ?_)
      · rw [if_pos c7] at hR
        exact hJ_68 x1_6 P_6 hp_6 hR _ _ _ hP hD hS (lv_sub hl [0, 1] rfl)
      · rw [if_neg c7] at hR
        refine lv_aload_n hx hb dX2_readGroups_17 rfl (lv_at hl 0 rfl) ?_
        refine va_get (D := (dC, dI)) (ci := 2) (v := .ref (a 1)) (C := RX2) (T := TX2) (N := 3) hx hb hts hin2 hown hK hP 0 rfl rfl 0 (by decide) (hts (.fieldLink RX2 9 "FeedDesk$Patch" "text" "[C") (List.mem_of_getElem? (i := 3) rfl)) (fun _ h9 => h9) rfl dX2_readGroups_18 ?_
        refine lv_aload_n hx hb dX2_readGroups_21 rfl (lv_at hl 0 rfl) ?_
        refine va_get (D := (dC, dI)) (ci := 2) (v := .int (P_6 1 1)) (C := RX2) (T := TX2) (N := 3) hx hb hts hin2 hown hK hP 0 rfl rfl 2 (by decide) (hts (.fieldLink RX2 19 "FeedDesk$Patch" "at" "I") (List.mem_of_getElem? (i := 1) rfl)) (fun _ h9 => h9) rfl dX2_readGroups_22 ?_
        refine va_cald (f := P_6 0) hx hb hK hP 1 1 rfl rfl (wfp_in hp_6 c7) dX2_readGroups_25 ?_
        refine lv_bipush (v := 48) hx hb dX2_readGroups_26 (by decide) ?_
        refine lv_isub hx hb dX2_readGroups_28 ?_
        refine lv_istore_n (lv' := [(2, .int ((P_6 0 (P_6 1 1).toNatClampNeg) - 48)), (0, .ref (a 0)), (1, .int x1_6)]) hx hb dX2_readGroups_29 rfl hl (by decide) rfl (fun ls hl => ?_)
        refine lv_iload_n hx hb dX2_readGroups_30 rfl (lv_at hl 0 rfl) ?_
        refine lv_iconst (v := 4) hx hb dX2_readGroups_31 (by decide) ?_
        have hFc : ∀ q : Nat, va_A [] H.size q → (va_A (cPt a cC P) s.heap.size) q := roF hS hA
        refine va_calli (va_runSN (As := [.int ((P_6 0 (P_6 1 1).toNatClampNeg) - 48), .int 4]) (rest := []) ⟨hx, hb, hml, hown, hts⟩ (c_X5_isBelow l dC dI cI cC cS H.size ((P_6 0 (P_6 1 1).toNatClampNeg) - 48) 4) ⟨va_cnB 2 hts gX2_readGroups_X5_isBelow_n74 rfl rfl rfl (hN.at 6 rfl) (hts (.initialized RX5) (List.mem_of_getElem? (i := 10) rfl)) (by decide +kernel) ⟨Nat.le_of_ble_eq_true rfl, Nat.le_of_ble_eq_true rfl⟩, (hts (.static yX5_isBelow) (List.mem_of_getElem? (i := 9) rfl)), trivial⟩ (pS hK (va_P_nil) (va_D_nil) hN) rfl rfl hl.1 rfl (lv_room (Nat.le_of_ble_eq_true rfl)) dX2_readGroups_32 ⟨Nat.le_of_ble_eq_true rfl, Nat.le_of_ble_eq_true rfl⟩) hS (fun q _ h => hFc q h) hFc (fun r_8 u_8 t_8 H9 locs ht hvm hw hB hz1 hk1 hS => ?_)
        obtain ⟨hw, hre10⟩ := hw
        subst hw
        have hP := ro_keep hP hk1
        refine lv_if_eq (tgt := 68) hx hb dX2_readGroups_35 (by decide) (fun c11 => ?_) (fun c11 => ?_)
        · rw [if_pos c11] at hR
          exact hJ_68 x1_6 P_6 hp_6 hR _ _ _ hP hD hS (lv_sub hl [1, 2] rfl)
        · rw [if_neg c11] at hR
          refine lv_iload_n hx hb dX2_readGroups_38 rfl (lv_at hl 2 rfl) ?_
          refine lv_iload_n hx hb dX2_readGroups_39 rfl (lv_at hl 0 rfl) ?_
          have hFc : ∀ q : Nat, va_A [] H9.size q → (va_A (cPt a cC P) s.heap.size) q := roF hS hA
          refine va_calli (va_runSN (As := [.int x1_6, .int ((P_6 0 (P_6 1 1).toNatClampNeg) - 48)]) (rest := []) ⟨hx, hb, hml, hown, hts⟩ (c_X5_hasBit l dC dI cI cC cS H9.size x1_6 ((P_6 0 (P_6 1 1).toNatClampNeg) - 48)) ⟨va_cnB 2 hts gX2_readGroups_X5_hasBit_n66 rfl rfl rfl (hN.at 7 rfl) (hts (.initialized RX5) (List.mem_of_getElem? (i := 10) rfl)) (by decide +kernel) ⟨Nat.le_of_ble_eq_true rfl, Nat.le_of_ble_eq_true rfl⟩, (hts (.static yX5_hasBit) (List.mem_of_getElem? (i := 12) rfl)), trivial⟩ (pS hK (va_P_nil) (va_D_nil) hN) rfl rfl hl.1 rfl (lv_room (Nat.le_of_ble_eq_true rfl)) dX2_readGroups_40 ⟨Nat.le_of_ble_eq_true rfl, Nat.le_of_ble_eq_true rfl⟩) hS (fun q _ h => hFc q h) hFc (fun r_12 u_12 t_12 H13 locs ht hvm hw hB hz1 hk1 hS => ?_)
          obtain ⟨hw, hre14⟩ := hw
          subst hw
          have hP := ro_keep hP hk1
          refine lv_if_eq (tgt := 49) hx hb dX2_readGroups_43 (by decide) (fun c15 => ?_) (fun c15 => ?_)
          · rw [if_pos c15] at hR
            refine lv_iload_n hx hb dX2_readGroups_49 rfl (lv_at hl 2 rfl) ?_
            refine lv_iconst (v := 1) hx hb dX2_readGroups_50 (by decide) ?_
            refine lv_iload_n hx hb dX2_readGroups_51 rfl (lv_at hl 0 rfl) ?_
            refine lv_ishl hx hb dX2_readGroups_52 ?_
            refine lv_ior hx hb dX2_readGroups_53 ?_
            refine lv_istore_n (lv' := [(1, .int (x1_6 ||| (1 <<< (((P_6 0 (P_6 1 1).toNatClampNeg) - 48) &&& 31)))), (2, .int ((P_6 0 (P_6 1 1).toNatClampNeg) - 48)), (0, .ref (a 0))]) hx hb dX2_readGroups_54 rfl hl (by decide) rfl (fun ls hl => ?_)
            refine lv_aload_n hx hb dX2_readGroups_55 rfl (lv_at hl 2 rfl) ?_
            refine lv_dup hx hb dX2_readGroups_56 rfl ?_
            refine va_get (D := (dC, dI)) (ci := 2) (v := .int (P_6 1 1)) (C := RX2) (T := TX2) (N := 3) hx hb hts hin2 hown hK hP 0 rfl rfl 2 (by decide) (hts (.fieldLink RX2 19 "FeedDesk$Patch" "at" "I") (List.mem_of_getElem? (i := 1) rfl)) (fun _ h9 => h9) rfl dX2_readGroups_57 ?_
            refine lv_iconst (v := 1) hx hb dX2_readGroups_60 (by decide) ?_
            refine lv_iadd hx hb dX2_readGroups_61 ?_
            refine va_put (D := (dC, dI)) (ci := 2) (v := .int ((P_6 1 1) + 1)) (ty := .int) (C := RX2) (T := TX2) (N := 3) hx hb hts hin2 tyX2 tyX2_ok nmX2 hown hK hP hD hS 0 rfl rfl 2 (by decide) (hts (.fieldLink RX2 19 "FeedDesk$Patch" "at" "I") (List.mem_of_getElem? (i := 1) rfl)) (fun _ h9 => h9) rfl (by decide +kernel) rfl rfl (Nat.le_of_ble_eq_true rfl) dX2_readGroups_62 (fun H16 locs hP hD hS => ?_)
            have hP : va_P (dC, dI) vwCl (cPt a cC (sU P_6 1 1 ((P_6 1 1) + 1))) H16 := hP
            have hD : va_D (va_A (cPt a cC P) s.heap.size) (cPt a cC (sU P_6 1 1 ((P_6 1 1) + 1))) := hD
            obtain ⟨Pn17, ePn17⟩ : ∃ z : SR, z = sU P_6 1 1 ((P_6 1 1) + 1) := ⟨_, rfl⟩
            rw [sLet_eq, ← ePn17] at hR
            rw [← ePn17] at hP hD
            have hp18 : WFP Pn17 := (by rw [ePn17]; exact wfp_inc hp_6 c7)
            refine lv_goto (tgt := 6) hx hb dX2_readGroups_65 (by decide) ?_
            exact ih_6 (x1_6 ||| (1 <<< (((P_6 0 (P_6 1 1).toNatClampNeg) - 48) &&& 31))) Pn17 (by rw [ePn17]; exact ms_back (ms_inc hp_6 c7) hm_6) hp18 hR _ _ _ hP hD hS (lv_sub hl [2, 0] rfl)
          · rw [if_neg c15] at hR
            refine lv_goto (tgt := 68) hx hb dX2_readGroups_46 (by decide) ?_
            exact hJ_68 x1_6 P_6 hp_6 hR _ _ _ hP hD hS (lv_sub hl [1, 2] rfl)
  exact hL_6 142 0 Pn4 (ms_lt hp5) hp5 hR _ _ _ hP hD hS (lv_sub hl [1, 0] rfl)
