abbrev rm_X6_readsPart : Room := { frames := 2, cells := 0, slots := 0, locals := 48 }
def f_X6_readsPart (R : SR) (p1 : Int32) (p2 : Int32) : Int32 × SR := sLet (sU R 6 3 ((R 6 3) + 1)) (fun Rn2 : SR => sLet (sU Rn2 6 4 1) (fun Rn9 : SR => (if p2 = 0 then sLet ((f_X6_reads Rn9 0 1000).2) (fun Rn111 : SR => (if ((f_X6_reads Rn9 0 1000).1) = 0 then ((f_X6_reads Rn9 0 1000).1, Rn111) else sLet ((f_X6_setByHand Rn111 p1 p2 (Rn111 6 4))) (fun Rn128 : SR => ((f_X6_reads Rn9 0 1000).1, Rn128)))) else (if p2 = 1 then sLet ((f_X6_reads Rn9 0 100).2) (fun Rn77 : SR => (if ((f_X6_reads Rn9 0 100).1) = 0 then ((f_X6_reads Rn9 0 100).1, Rn77) else sLet ((f_X6_setByHand Rn77 p1 p2 (Rn77 6 4))) (fun Rn94 : SR => ((f_X6_reads Rn9 0 100).1, Rn94)))) else (if p2 = 4 then sLet ((f_X6_readsGroups Rn9).2) (fun Rn42 : SR => (if ((f_X6_readsGroups Rn9).1) = 0 then (0, Rn42) else sLet ((f_X6_setByHand Rn42 p1 p2 (Rn42 6 4))) (fun Rn60 : SR => (1, Rn60)))) else sLet ((f_X6_setByHand Rn9 p1 p2 (Rn9 6 4))) (fun Rn26 : SR => (1, Rn26)))))))
set_option maxHeartbeats 4000000 in
set_option maxRecDepth 100000 in
theorem c_X6_readsPart (l : Launch) (dC : Nat → ClassId) (dI : Nat → Nat → Nat) (cI cC cS : ClassId) (a : Nat → Nat) (R : SR) (sz : Nat) (p1 : Int32) (p2 : Int32) (h1 : vp_in p1 12) (h2 : vp_in p2 5) (hlt : ¬ (R 6 2) ≤ (R 6 3)) (ht : WFT R) (hI : RA R) (hs : RS R) : Met l yX6_readsPart wsX6_readsPart rm_X6_readsPart (PcG (dC, dI) (tyL cI cC cS) (cMd a cI R) sz [.ref (a 0), .int p1, .int p2]) (va_Qi (fun (r : Int32) (u : SR) => (r, u) = f_X6_readsPart R p1 p2 ∧ (WFT u) ∧ (RA u) ∧ (RS u) ∧ (FX R u) ∧ (MN R u) ∧ (r = 0 ∨ r = 1)) (fun u U => va_P (dC, dI) vwCl (cMd a cI u) U.heap ∧ va_D (va_A (cMd a cI R) sz) (cMd a cI u)) (va_A (cMd a cI R) sz)) 0 0 (va_A (cMd a cI R) sz) := by
  refine Met.ofW (cc := cX6_readsPart) (maxL := 4) (ret := (some .boolean)) (by decide) rfl ?_
  intro p e s m args below meth c s₁ B hml hv
  obtain ⟨rfl, hsz, hP, hK, hD0, hN⟩ := hv
  have hx := B.exec
  have hb := B.bytes
  have hr := B.returns
  have hts := atoms_spec (ws := wsX6_readsPart) B.pre
  have hown : s.vm.findClass RX6 = some m.cls := findClass_of_methodNamed B.named
  have hlocks := B.notSynchronized
  subst hsz
  have hD := hD0.self (sz := s.heap.size)
  have hA : ∀ q : Nat, s.heap.size ≤ q → (va_A (cMd a cI R) s.heap.size) q := fun q h => Or.inr h
  have hS : va_S (va_A (cMd a cI R) s.heap.size) s.heap s.heap [] := va_S.rf
  have hin6 : ∀ w ∈ wsX60, w ∈ wsX6_readsPart := fun _ h => List.mem_cons_of_mem _ (List.mem_append_right _ h)
  have hx_0 : FX R R := fx_rf
  have hmn_0 : MN R R := mn_rf
  have hl := lv_entry [.ref (a 0), .int p1, .int p2] (n := 4) (Nat.le_of_ble_eq_true rfl)
  rw [lg_entry_eq]
  generalize (lg_sl [.ref (a 0), .int p1, .int p2] ++ List.replicate (4 - (lg_sl [.ref (a 0), .int p1, .int p2]).length) Slot.unset).toArray = ls at hl ⊢
  have hl : lv_has ls 4 [(0, .ref (a 0)), (1, .int p1), (2, .int p2)] := hl
  obtain ⟨R0, eR⟩ : ∃ z, z = f_X6_readsPart R p1 p2 := ⟨_, rfl⟩
  have hR := eR
  rw [f_X6_readsPart] at hR
  refine lv_aload_n hx hb dX6_readsPart_0 rfl (lv_at hl 0 rfl) ?_
  refine lv_dup hx hb dX6_readsPart_1 rfl ?_
  refine va_get (D := (dC, dI)) (ci := 6) (v := .int (R 6 3)) (C := RX6) (T := TX6) (N := 15) hx hb hts hin6 hown hK hP 0 rfl rfl 7 (by decide) (hts (.fieldLink RX6 125 "FeedDeskModel" "next" "I") (List.mem_of_getElem? (i := 1) rfl)) (fun _ h9 => h9) rfl dX6_readsPart_2 ?_
  refine lv_iconst (v := 1) hx hb dX6_readsPart_5 (by decide) ?_
  refine lv_iadd hx hb dX6_readsPart_6 ?_
  refine va_put (D := (dC, dI)) (ci := 6) (v := .int ((R 6 3) + 1)) (ty := .int) (C := RX6) (T := TX6) (N := 15) hx hb hts hin6 tyX6 tyX6_ok nmX6 hown hK hP hD hS 0 rfl rfl 7 (by decide) (hts (.fieldLink RX6 125 "FeedDeskModel" "next" "I") (List.mem_of_getElem? (i := 1) rfl)) (fun _ h9 => h9) rfl (by decide +kernel) rfl rfl (Nat.le_of_ble_eq_true rfl) dX6_readsPart_7 (fun H1 locs hP hD hS => ?_)
  have hP : va_P (dC, dI) vwCl (cMd a cI (sU R 6 3 ((R 6 3) + 1))) H1 := hP
  have hD : va_D (va_A (cMd a cI R) s.heap.size) (cMd a cI (sU R 6 3 ((R 6 3) + 1))) := hD
  obtain ⟨Rn2, eRn2⟩ : ∃ z : SR, z = sU R 6 3 ((R 6 3) + 1) := ⟨_, rfl⟩
  rw [sLet_eq, ← eRn2] at hR
  rw [← eRn2] at hP hD
  have ht3 : WFT Rn2 := (by rw [eRn2]; exact wft_inc ht hlt)
  have hI4 : RA Rn2 := (by rw [eRn2]; exact hI)
  have hs5 : RS Rn2 := (by rw [eRn2]; exact hs)
  have hx6 : FX R Rn2 := (by rw [eRn2]; exact hx_0)
  have hmn7 : MN R Rn2 := (by rw [eRn2]; exact mn_inc hmn_0 ht hlt)
  refine lv_aload_n hx hb dX6_readsPart_10 rfl (lv_at hl 0 rfl) ?_
  refine lv_iconst (v := 1) hx hb dX6_readsPart_11 (by decide) ?_
  refine va_put (D := (dC, dI)) (ci := 6) (v := .int 1) (ty := .int) (C := RX6) (T := TX6) (N := 15) hx hb hts hin6 tyX6 tyX6_ok nmX6 hown hK hP hD hS 0 rfl rfl 8 (by decide) (hts (.fieldLink RX6 132 "FeedDeskModel" "number" "I") (List.mem_of_getElem? (i := 2) rfl)) (fun _ h9 => h9) rfl (by decide +kernel) rfl rfl (Nat.le_of_ble_eq_true rfl) dX6_readsPart_12 (fun H8 locs hP hD hS => ?_)
  have hP : va_P (dC, dI) vwCl (cMd a cI (sU Rn2 6 4 1)) H8 := hP
  have hD : va_D (va_A (cMd a cI R) s.heap.size) (cMd a cI (sU Rn2 6 4 1)) := hD
  obtain ⟨Rn9, eRn9⟩ : ∃ z : SR, z = sU Rn2 6 4 1 := ⟨_, rfl⟩
  rw [sLet_eq, ← eRn9] at hR
  rw [← eRn9] at hP hD
  have ht10 : WFT Rn9 := (by rw [eRn9]; exact ht3)
  have hI11 : RA Rn9 := (by rw [eRn9]; exact hI4)
  have hs12 : RS Rn9 := (by rw [eRn9]; exact hs5)
  have hx13 : FX R Rn9 := (by rw [eRn9]; exact hx6)
  have hmn14 : MN R Rn9 := (by rw [eRn9]; exact hmn7)
  refine lv_iload_n hx hb dX6_readsPart_15 rfl (lv_at hl 2 rfl) ?_
  refine lv_if_ne (tgt := 30) hx hb dX6_readsPart_16 (by decide) (fun c15 => ?_) (fun c15 => ?_)
  · rw [if_neg c15] at hR
    refine lv_iload_n hx hb dX6_readsPart_30 rfl (lv_at hl 2 rfl) ?_
    refine lv_iconst (v := 1) hx hb dX6_readsPart_31 (by decide) ?_
    refine lv_icmp_ne (tgt := 45) hx hb dX6_readsPart_32 (by decide) (fun c16 => ?_) (fun c16 => ?_)
    · rw [if_neg c16] at hR
      refine lv_iload_n hx hb dX6_readsPart_45 rfl (lv_at hl 2 rfl) ?_
      refine lv_iconst (v := 4) hx hb dX6_readsPart_46 (by decide) ?_
      refine lv_icmp_ne (tgt := 57) hx hb dX6_readsPart_47 (by decide) (fun c17 => ?_) (fun c17 => ?_)
      · rw [if_neg c17] at hR
        refine lv_iconst (v := 1) hx hb dX6_readsPart_57 (by decide) ?_
        refine lv_goto (tgt := 62) hx hb dX6_readsPart_58 (by decide) ?_
        refine lv_istore_n (lv' := [(3, .int 1), (0, .ref (a 0)), (1, .int p1), (2, .int p2)]) hx hb dX6_readsPart_62 rfl hl (by decide) rfl (fun ls hl => ?_)
        refine lv_iload_n hx hb dX6_readsPart_63 rfl (lv_at hl 0 rfl) ?_
        refine lv_if_eq (tgt := 77) hx hb dX6_readsPart_64 (by decide) (fun c18 => ?_) (fun c18 => ?_)
        · exact absurd c18 (by decide)
        · refine lv_aload_n hx hb dX6_readsPart_67 rfl (lv_at hl 1 rfl) ?_
          refine lv_iload_n hx hb dX6_readsPart_68 rfl (lv_at hl 2 rfl) ?_
          refine lv_iload_n hx hb dX6_readsPart_69 rfl (lv_at hl 3 rfl) ?_
          refine lv_aload_n hx hb dX6_readsPart_70 rfl (lv_at hl 1 rfl) ?_
          refine va_get (D := (dC, dI)) (ci := 6) (v := .int (Rn9 6 4)) (C := RX6) (T := TX6) (N := 15) hx hb hts hin6 hown hK hP 0 rfl rfl 8 (by decide) (hts (.fieldLink RX6 132 "FeedDeskModel" "number" "I") (List.mem_of_getElem? (i := 2) rfl)) (fun _ h9 => h9) rfl dX6_readsPart_71 ?_
          have hPc : va_P (dC, dI) vwCl (cMd a cI Rn9) H8 := hP.sub [0, 1, 2, 3, 4, 5, 6] rfl
          have hDc : va_D (va_A (cMd a cI R) s.heap.size) (cMd a cI Rn9) := hD.sub [0, 1, 2, 3, 4, 5, 6] (by decide) rfl
          have hFc : ∀ q : Nat, va_A (cMd a cI Rn9) H8.size q → (va_A (cMd a cI R) s.heap.size) q := va_free hD hS hA [0, 1, 2, 3, 4, 5, 6] rfl
          refine va_callv (va_runV (As := [.int p1, .int p2, .int (Rn9 6 4)]) (rest := []) ⟨hx, hb, hml, hown, hts⟩ (c_X6_setByHand l dC dI cI cC cS a Rn9 H8.size p1 p2 (Rn9 6 4) h1 h2 hI11 hs12) (cwV 3 hts gX6_readsPart_X6_setByHand rfl rfl rfl (by decide +kernel) ⟨Nat.le_of_ble_eq_true rfl, Nat.le_of_ble_eq_true rfl⟩) (pV (q0 := 0) hK hPc hDc hN rfl rfl) rfl rfl hl.1 rfl (lv_room (Nat.le_of_ble_eq_true rfl)) dX6_readsPart_74 ⟨Nat.le_of_ble_eq_true rfl, Nat.le_of_ble_eq_true rfl⟩) hS (fun q _ h => hFc q h) hFc (fun u_19 t_19 H20 locs ht hvm hw hB hz1 hk1 hS => ?_)
          obtain ⟨hw, hens21, hens22, hens23, hens24, hens25⟩ := hw
          obtain ⟨hP1, hD1⟩ := hB
          rw [ht] at hP1
          subst hw
          obtain ⟨hP, hD⟩ := va_join (wc := cMd a cI Rn9) (wr := []) (w1 := cMd a cI (f_X6_setByHand Rn9 p1 p2 (Rn9 6 4))) hP hD [0, 1, 2, 3, 4, 5, 6] [] rfl rfl (by decide) (by decide) hk1 hFc hP1 hD1
          have hP : va_P (dC, dI) vwCl (cMd a cI (f_X6_setByHand Rn9 p1 p2 (Rn9 6 4))) H20 := hP.sub [0, 1, 2, 3, 4, 5, 6] rfl
          have hD : va_D (va_A (cMd a cI R) s.heap.size) (cMd a cI (f_X6_setByHand Rn9 p1 p2 (Rn9 6 4))) := hD.sub [0, 1, 2, 3, 4, 5, 6] (by decide) rfl
          obtain ⟨Rn26, eRn26⟩ : ∃ z : SR, z = (f_X6_setByHand Rn9 p1 p2 (Rn9 6 4)) := ⟨_, rfl⟩
          rw [sLet_eq, ← eRn26] at hR
          rw [← eRn26] at hP hD
          have ht27 : WFT Rn26 := (by rw [eRn26]; exact wft_eq ht10 hens25 hens24)
          have hI28 : RA Rn26 := by rw [eRn26]; exact hens21
          have hs29 : RS Rn26 := by rw [eRn26]; exact hens22
          have hx30 : FX R Rn26 := (by rw [eRn26]; exact fx_tr hx13 hens23)
          have hmn31 : MN R Rn26 := (by rw [eRn26]; exact mn_eq hmn14 hens25 hens24)
          have hq32 : FX Rn9 Rn26 := by rw [eRn26]; exact hens23
          have hq33 : Rn26 3 = Rn9 3 := by rw [eRn26]; exact hens24
          have hq34 : Rn26 6 = Rn9 6 := by rw [eRn26]; exact hens25
          refine lv_iload_n hx hb dX6_readsPart_77 rfl (lv_at hl 0 rfl) ?_
          exact W.zret (v := 1) hx hb hr rfl (fun t ht hWw => ⟨⟨1, Rn26, rfl, ⟨hR.symm.trans eR, ht27, hI28, hs29, hx30, hmn31, (Or.inr rfl)⟩, by rw [ht]; exact hP, hD⟩, hS.F ht⟩) hS.2.2 dX6_readsPart_78
      · rw [if_pos c17] at hR
        refine lv_aload_n hx hb dX6_readsPart_50 rfl (lv_at hl 0 rfl) ?_
        have hPc : va_P (dC, dI) vwCl (cMd a cI Rn9) H8 := hP.sub [0, 1, 2, 3, 4, 5, 6] rfl
        have hDc : va_D (va_A (cMd a cI R) s.heap.size) (cMd a cI Rn9) := hD.sub [0, 1, 2, 3, 4, 5, 6] (by decide) rfl
        have hFc : ∀ q : Nat, va_A (cMd a cI Rn9) H8.size q → (va_A (cMd a cI R) s.heap.size) q := va_free hD hS hA [0, 1, 2, 3, 4, 5, 6] rfl
        refine va_calli (va_runV (As := []) (rest := []) ⟨hx, hb, hml, hown, hts⟩ (c_X6_readsGroups l dC dI cI cC cS a Rn9 H8.size ht10) (cwV 0 hts gX6_readsPart_X6_readsGroups rfl rfl rfl (by decide +kernel) ⟨Nat.le_of_ble_eq_true rfl, Nat.le_of_ble_eq_true rfl⟩) (pV (q0 := 0) hK hPc hDc hN rfl rfl) rfl rfl hl.1 rfl (lv_room (Nat.le_of_ble_eq_true rfl)) dX6_readsPart_51 ⟨Nat.le_of_ble_eq_true rfl, Nat.le_of_ble_eq_true rfl⟩) hS (fun q _ h => hFc q h) hFc (fun r_35 u_35 t_35 H36 locs ht hvm hw hB hz1 hk1 hS => ?_)
        obtain ⟨hw, hens37, hens38, hens39, hens40, hens41⟩ := hw
        obtain ⟨hP1, hD1⟩ := hB
        rw [ht] at hP1
        have hw1 : r_35 = (f_X6_readsGroups Rn9).1 := congrArg Prod.fst hw
        have hw2 : u_35 = (f_X6_readsGroups Rn9).2 := congrArg Prod.snd hw
        clear hw
        subst hw1
        subst hw2
        obtain ⟨hP, hD⟩ := va_join (wc := cMd a cI Rn9) (wr := []) (w1 := cMd a cI ((f_X6_readsGroups Rn9).2)) hP hD [0, 1, 2, 3, 4, 5, 6] [] rfl rfl (by decide) (by decide) hk1 hFc hP1 hD1
        have hP : va_P (dC, dI) vwCl (cMd a cI ((f_X6_readsGroups Rn9).2)) H36 := hP.sub [0, 1, 2, 3, 4, 5, 6] rfl
        have hD : va_D (va_A (cMd a cI R) s.heap.size) (cMd a cI ((f_X6_readsGroups Rn9).2)) := hD.sub [0, 1, 2, 3, 4, 5, 6] (by decide) rfl
        obtain ⟨Rn42, eRn42⟩ : ∃ z : SR, z = (f_X6_readsGroups Rn9).2 := ⟨_, rfl⟩
        rw [sLet_eq, ← eRn42] at hR
        rw [← eRn42] at hP hD
        have ht43 : WFT Rn42 := by rw [eRn42]; exact hens37
        have hI44 : RA Rn42 := (by rw [eRn42]; exact ra_eq hI11 hens38)
        have hs45 : RS Rn42 := (by rw [eRn42]; exact rs_eq0 hs12 hens38)
        have hx46 : FX R Rn42 := (by rw [eRn42]; exact fx_tr hx13 hens39)
        have hmn47 : MN R Rn42 := (by rw [eRn42]; exact mn_tr hmn14 hens40)
        have hq48 : FX Rn9 Rn42 := by rw [eRn42]; exact hens39
        have hq49 : MN Rn9 Rn42 := by rw [eRn42]; exact hens40
        refine lv_if_eq (tgt := 61) hx hb dX6_readsPart_54 (by decide) (fun c50 => ?_) (fun c50 => ?_)
        · rw [if_pos c50] at hR
          refine lv_iconst (v := 0) hx hb dX6_readsPart_61 (by decide) ?_
          refine lv_istore_n (lv' := [(3, .int 0), (0, .ref (a 0)), (1, .int p1), (2, .int p2)]) hx hb dX6_readsPart_62 rfl hl (by decide) rfl (fun ls hl => ?_)
          refine lv_iload_n hx hb dX6_readsPart_63 rfl (lv_at hl 0 rfl) ?_
          refine lv_if_eq (tgt := 77) hx hb dX6_readsPart_64 (by decide) (fun c51 => ?_) (fun c51 => ?_)
          · refine lv_iload_n hx hb dX6_readsPart_77 rfl (lv_at hl 0 rfl) ?_
            exact W.zret (v := 0) hx hb hr rfl (fun t ht hWw => ⟨⟨0, Rn42, rfl, ⟨hR.symm.trans eR, ht43, hI44, hs45, hx46, hmn47, (Or.inl rfl)⟩, by rw [ht]; exact hP, hD⟩, hS.F ht⟩) hS.2.2 dX6_readsPart_78
          · exact absurd c51 (by decide)
        · rw [if_neg c50] at hR
          refine lv_iconst (v := 1) hx hb dX6_readsPart_57 (by decide) ?_
          refine lv_goto (tgt := 62) hx hb dX6_readsPart_58 (by decide) ?_
          refine lv_istore_n (lv' := [(3, .int 1), (0, .ref (a 0)), (1, .int p1), (2, .int p2)]) hx hb dX6_readsPart_62 rfl hl (by decide) rfl (fun ls hl => ?_)
          refine lv_iload_n hx hb dX6_readsPart_63 rfl (lv_at hl 0 rfl) ?_
          refine lv_if_eq (tgt := 77) hx hb dX6_readsPart_64 (by decide) (fun c52 => ?_) (fun c52 => ?_)
          · exact absurd c52 (by decide)
          · refine lv_aload_n hx hb dX6_readsPart_67 rfl (lv_at hl 1 rfl) ?_
            refine lv_iload_n hx hb dX6_readsPart_68 rfl (lv_at hl 2 rfl) ?_
            refine lv_iload_n hx hb dX6_readsPart_69 rfl (lv_at hl 3 rfl) ?_
            refine lv_aload_n hx hb dX6_readsPart_70 rfl (lv_at hl 1 rfl) ?_
            refine va_get (D := (dC, dI)) (ci := 6) (v := .int (Rn42 6 4)) (C := RX6) (T := TX6) (N := 15) hx hb hts hin6 hown hK hP 0 rfl rfl 8 (by decide) (hts (.fieldLink RX6 132 "FeedDeskModel" "number" "I") (List.mem_of_getElem? (i := 2) rfl)) (fun _ h9 => h9) rfl dX6_readsPart_71 ?_
            have hPc : va_P (dC, dI) vwCl (cMd a cI Rn42) H36 := hP.sub [0, 1, 2, 3, 4, 5, 6] rfl
            have hDc : va_D (va_A (cMd a cI R) s.heap.size) (cMd a cI Rn42) := hD.sub [0, 1, 2, 3, 4, 5, 6] (by decide) rfl
            have hFc : ∀ q : Nat, va_A (cMd a cI Rn42) H36.size q → (va_A (cMd a cI R) s.heap.size) q := va_free hD hS hA [0, 1, 2, 3, 4, 5, 6] rfl
            refine va_callv (va_runV (As := [.int p1, .int p2, .int (Rn42 6 4)]) (rest := []) ⟨hx, hb, hml, hown, hts⟩ (c_X6_setByHand l dC dI cI cC cS a Rn42 H36.size p1 p2 (Rn42 6 4) h1 h2 hI44 hs45) (cwV 3 hts gX6_readsPart_X6_setByHand rfl rfl rfl (by decide +kernel) ⟨Nat.le_of_ble_eq_true rfl, Nat.le_of_ble_eq_true rfl⟩) (pV (q0 := 0) hK hPc hDc hN rfl rfl) rfl rfl hl.1 rfl (lv_room (Nat.le_of_ble_eq_true rfl)) dX6_readsPart_74 ⟨Nat.le_of_ble_eq_true rfl, Nat.le_of_ble_eq_true rfl⟩) hS (fun q _ h => hFc q h) hFc (fun u_53 t_53 H54 locs ht hvm hw hB hz1 hk1 hS => ?_)
            obtain ⟨hw, hens55, hens56, hens57, hens58, hens59⟩ := hw
            obtain ⟨hP1, hD1⟩ := hB
            rw [ht] at hP1
            subst hw
            obtain ⟨hP, hD⟩ := va_join (wc := cMd a cI Rn42) (wr := []) (w1 := cMd a cI (f_X6_setByHand Rn42 p1 p2 (Rn42 6 4))) hP hD [0, 1, 2, 3, 4, 5, 6] [] rfl rfl (by decide) (by decide) hk1 hFc hP1 hD1
            have hP : va_P (dC, dI) vwCl (cMd a cI (f_X6_setByHand Rn42 p1 p2 (Rn42 6 4))) H54 := hP.sub [0, 1, 2, 3, 4, 5, 6] rfl
            have hD : va_D (va_A (cMd a cI R) s.heap.size) (cMd a cI (f_X6_setByHand Rn42 p1 p2 (Rn42 6 4))) := hD.sub [0, 1, 2, 3, 4, 5, 6] (by decide) rfl
            obtain ⟨Rn60, eRn60⟩ : ∃ z : SR, z = (f_X6_setByHand Rn42 p1 p2 (Rn42 6 4)) := ⟨_, rfl⟩
            rw [sLet_eq, ← eRn60] at hR
            rw [← eRn60] at hP hD
            have ht61 : WFT Rn60 := (by rw [eRn60]; exact wft_eq ht43 hens59 hens58)
            have hI62 : RA Rn60 := by rw [eRn60]; exact hens55
            have hs63 : RS Rn60 := by rw [eRn60]; exact hens56
            have hx64 : FX R Rn60 := (by rw [eRn60]; exact fx_tr hx46 hens57)
            have hmn65 : MN R Rn60 := (by rw [eRn60]; exact mn_eq hmn47 hens59 hens58)
            have hq66 : FX Rn42 Rn60 := by rw [eRn60]; exact hens57
            have hq67 : Rn60 3 = Rn42 3 := by rw [eRn60]; exact hens58
            have hq68 : Rn60 6 = Rn42 6 := by rw [eRn60]; exact hens59
            refine lv_iload_n hx hb dX6_readsPart_77 rfl (lv_at hl 0 rfl) ?_
            exact W.zret (v := 1) hx hb hr rfl (fun t ht hWw => ⟨⟨1, Rn60, rfl, ⟨hR.symm.trans eR, ht61, hI62, hs63, hx64, hmn65, (Or.inr rfl)⟩, by rw [ht]; exact hP, hD⟩, hS.F ht⟩) hS.2.2 dX6_readsPart_78
    · rw [if_pos c16] at hR
      refine lv_aload_n hx hb dX6_readsPart_35 rfl (lv_at hl 0 rfl) ?_
      refine lv_iconst (v := 0) hx hb dX6_readsPart_36 (by decide) ?_
      refine lv_bipush (v := 100) hx hb dX6_readsPart_37 (by decide) ?_
      have hPc : va_P (dC, dI) vwCl (cMd a cI Rn9) H8 := hP.sub [0, 1, 2, 3, 4, 5, 6] rfl
      have hDc : va_D (va_A (cMd a cI R) s.heap.size) (cMd a cI Rn9) := hD.sub [0, 1, 2, 3, 4, 5, 6] (by decide) rfl
      have hFc : ∀ q : Nat, va_A (cMd a cI Rn9) H8.size q → (va_A (cMd a cI R) s.heap.size) q := va_free hD hS hA [0, 1, 2, 3, 4, 5, 6] rfl
      refine va_calli (va_runV (As := [.int 0, .int 100]) (rest := []) ⟨hx, hb, hml, hown, hts⟩ (c_X6_reads l dC dI cI cC cS a Rn9 H8.size 0 100 ht10) (cwV 2 hts gX6_readsPart_X6_reads rfl rfl rfl (by decide +kernel) ⟨Nat.le_of_ble_eq_true rfl, Nat.le_of_ble_eq_true rfl⟩) (pV (q0 := 0) hK hPc hDc hN rfl rfl) rfl rfl hl.1 rfl (lv_room (Nat.le_of_ble_eq_true rfl)) dX6_readsPart_39 ⟨Nat.le_of_ble_eq_true rfl, Nat.le_of_ble_eq_true rfl⟩) hS (fun q _ h => hFc q h) hFc (fun r_69 u_69 t_69 H70 locs ht hvm hw hB hz1 hk1 hS => ?_)
      obtain ⟨hw, hens71, hens72, hens73, hens74, hens75, hens76⟩ := hw
      obtain ⟨hP1, hD1⟩ := hB
      rw [ht] at hP1
      have hw1 : r_69 = (f_X6_reads Rn9 0 100).1 := congrArg Prod.fst hw
      have hw2 : u_69 = (f_X6_reads Rn9 0 100).2 := congrArg Prod.snd hw
      clear hw
      subst hw1
      subst hw2
      obtain ⟨hP, hD⟩ := va_join (wc := cMd a cI Rn9) (wr := []) (w1 := cMd a cI ((f_X6_reads Rn9 0 100).2)) hP hD [0, 1, 2, 3, 4, 5, 6] [] rfl rfl (by decide) (by decide) hk1 hFc hP1 hD1
      have hP : va_P (dC, dI) vwCl (cMd a cI ((f_X6_reads Rn9 0 100).2)) H70 := hP.sub [0, 1, 2, 3, 4, 5, 6] rfl
      have hD : va_D (va_A (cMd a cI R) s.heap.size) (cMd a cI ((f_X6_reads Rn9 0 100).2)) := hD.sub [0, 1, 2, 3, 4, 5, 6] (by decide) rfl
      obtain ⟨Rn77, eRn77⟩ : ∃ z : SR, z = (f_X6_reads Rn9 0 100).2 := ⟨_, rfl⟩
      rw [sLet_eq, ← eRn77] at hR
      rw [← eRn77] at hP hD
      have ht78 : WFT Rn77 := by rw [eRn77]; exact hens71
      have hI79 : RA Rn77 := (by rw [eRn77]; exact ra_eq hI11 hens72)
      have hs80 : RS Rn77 := (by rw [eRn77]; exact rs_eq0 hs12 hens72)
      have hx81 : FX R Rn77 := (by rw [eRn77]; exact fx_tr hx13 hens73)
      have hmn82 : MN R Rn77 := (by rw [eRn77]; exact mn_tr hmn14 hens74)
      have hq83 : FX Rn9 Rn77 := by rw [eRn77]; exact hens73
      have hq84 : MN Rn9 Rn77 := by rw [eRn77]; exact hens74
      have hq85 : ((f_X6_reads Rn9 0 100).1) = 0 ∨ (¬ Rn77 6 4 < 0 ∧ ¬ 100 < Rn77 6 4) := by rw [eRn77]; exact hens75
      refine lv_goto (tgt := 62) hx hb dX6_readsPart_42 (by decide) ?_
      refine lv_istore_n (lv' := [(3, .int ((f_X6_reads Rn9 0 100).1)), (0, .ref (a 0)), (1, .int p1), (2, .int p2)]) hx hb dX6_readsPart_62 rfl hl (by decide) rfl (fun ls hl => ?_)
      refine lv_iload_n hx hb dX6_readsPart_63 rfl (lv_at hl 0 rfl) ?_
      refine lv_if_eq (tgt := 77) hx hb dX6_readsPart_64 (by decide) (fun c86 => ?_) (fun c86 => ?_)
      · rw [if_pos c86] at hR
        refine lv_iload_n hx hb dX6_readsPart_77 rfl (lv_at hl 0 rfl) ?_
        exact W.zret (v := (f_X6_reads Rn9 0 100).1) hx hb hr (nar_bool hens76) (fun t ht hWw => ⟨⟨(f_X6_reads Rn9 0 100).1, Rn77, rfl, ⟨hR.symm.trans eR, ht78, hI79, hs80, hx81, hmn82, hens76⟩, by rw [ht]; exact hP, hD⟩, hS.F ht⟩) hS.2.2 dX6_readsPart_78
      · rw [if_neg c86] at hR
        refine lv_aload_n hx hb dX6_readsPart_67 rfl (lv_at hl 1 rfl) ?_
        refine lv_iload_n hx hb dX6_readsPart_68 rfl (lv_at hl 2 rfl) ?_
        refine lv_iload_n hx hb dX6_readsPart_69 rfl (lv_at hl 3 rfl) ?_
        refine lv_aload_n hx hb dX6_readsPart_70 rfl (lv_at hl 1 rfl) ?_
        refine va_get (D := (dC, dI)) (ci := 6) (v := .int (Rn77 6 4)) (C := RX6) (T := TX6) (N := 15) hx hb hts hin6 hown hK hP 0 rfl rfl 8 (by decide) (hts (.fieldLink RX6 132 "FeedDeskModel" "number" "I") (List.mem_of_getElem? (i := 2) rfl)) (fun _ h9 => h9) rfl dX6_readsPart_71 ?_
        have hPc : va_P (dC, dI) vwCl (cMd a cI Rn77) H70 := hP.sub [0, 1, 2, 3, 4, 5, 6] rfl
        have hDc : va_D (va_A (cMd a cI R) s.heap.size) (cMd a cI Rn77) := hD.sub [0, 1, 2, 3, 4, 5, 6] (by decide) rfl
        have hFc : ∀ q : Nat, va_A (cMd a cI Rn77) H70.size q → (va_A (cMd a cI R) s.heap.size) q := va_free hD hS hA [0, 1, 2, 3, 4, 5, 6] rfl
        refine va_callv (va_runV (As := [.int p1, .int p2, .int (Rn77 6 4)]) (rest := []) ⟨hx, hb, hml, hown, hts⟩ (c_X6_setByHand l dC dI cI cC cS a Rn77 H70.size p1 p2 (Rn77 6 4) h1 h2 hI79 hs80) (cwV 3 hts gX6_readsPart_X6_setByHand rfl rfl rfl (by decide +kernel) ⟨Nat.le_of_ble_eq_true rfl, Nat.le_of_ble_eq_true rfl⟩) (pV (q0 := 0) hK hPc hDc hN rfl rfl) rfl rfl hl.1 rfl (lv_room (Nat.le_of_ble_eq_true rfl)) dX6_readsPart_74 ⟨Nat.le_of_ble_eq_true rfl, Nat.le_of_ble_eq_true rfl⟩) hS (fun q _ h => hFc q h) hFc (fun u_87 t_87 H88 locs ht hvm hw hB hz1 hk1 hS => ?_)
        obtain ⟨hw, hens89, hens90, hens91, hens92, hens93⟩ := hw
        obtain ⟨hP1, hD1⟩ := hB
        rw [ht] at hP1
        subst hw
        obtain ⟨hP, hD⟩ := va_join (wc := cMd a cI Rn77) (wr := []) (w1 := cMd a cI (f_X6_setByHand Rn77 p1 p2 (Rn77 6 4))) hP hD [0, 1, 2, 3, 4, 5, 6] [] rfl rfl (by decide) (by decide) hk1 hFc hP1 hD1
        have hP : va_P (dC, dI) vwCl (cMd a cI (f_X6_setByHand Rn77 p1 p2 (Rn77 6 4))) H88 := hP.sub [0, 1, 2, 3, 4, 5, 6] rfl
        have hD : va_D (va_A (cMd a cI R) s.heap.size) (cMd a cI (f_X6_setByHand Rn77 p1 p2 (Rn77 6 4))) := hD.sub [0, 1, 2, 3, 4, 5, 6] (by decide) rfl
        obtain ⟨Rn94, eRn94⟩ : ∃ z : SR, z = (f_X6_setByHand Rn77 p1 p2 (Rn77 6 4)) := ⟨_, rfl⟩
        rw [sLet_eq, ← eRn94] at hR
        rw [← eRn94] at hP hD
        have ht95 : WFT Rn94 := (by rw [eRn94]; exact wft_eq ht78 hens93 hens92)
        have hI96 : RA Rn94 := by rw [eRn94]; exact hens89
        have hs97 : RS Rn94 := by rw [eRn94]; exact hens90
        have hx98 : FX R Rn94 := (by rw [eRn94]; exact fx_tr hx81 hens91)
        have hmn99 : MN R Rn94 := (by rw [eRn94]; exact mn_eq hmn82 hens93 hens92)
        have hq100 : FX Rn77 Rn94 := by rw [eRn94]; exact hens91
        have hq101 : Rn94 3 = Rn77 3 := by rw [eRn94]; exact hens92
        have hq102 : Rn94 6 = Rn77 6 := by rw [eRn94]; exact hens93
        refine lv_iload_n hx hb dX6_readsPart_77 rfl (lv_at hl 0 rfl) ?_
        exact W.zret (v := (f_X6_reads Rn9 0 100).1) hx hb hr (nar_bool hens76) (fun t ht hWw => ⟨⟨(f_X6_reads Rn9 0 100).1, Rn94, rfl, ⟨hR.symm.trans eR, ht95, hI96, hs97, hx98, hmn99, hens76⟩, by rw [ht]; exact hP, hD⟩, hS.F ht⟩) hS.2.2 dX6_readsPart_78
  · rw [if_pos c15] at hR
    refine lv_aload_n hx hb dX6_readsPart_19 rfl (lv_at hl 0 rfl) ?_
    refine lv_iconst (v := 0) hx hb dX6_readsPart_20 (by decide) ?_
    refine lv_sipush (v := 1000) hx hb dX6_readsPart_21 (by decide) ?_
    have hPc : va_P (dC, dI) vwCl (cMd a cI Rn9) H8 := hP.sub [0, 1, 2, 3, 4, 5, 6] rfl
    have hDc : va_D (va_A (cMd a cI R) s.heap.size) (cMd a cI Rn9) := hD.sub [0, 1, 2, 3, 4, 5, 6] (by decide) rfl
    have hFc : ∀ q : Nat, va_A (cMd a cI Rn9) H8.size q → (va_A (cMd a cI R) s.heap.size) q := va_free hD hS hA [0, 1, 2, 3, 4, 5, 6] rfl
    refine va_calli (va_runV (As := [.int 0, .int 1000]) (rest := []) ⟨hx, hb, hml, hown, hts⟩ (c_X6_reads l dC dI cI cC cS a Rn9 H8.size 0 1000 ht10) (cwV 2 hts gX6_readsPart_X6_reads rfl rfl rfl (by decide +kernel) ⟨Nat.le_of_ble_eq_true rfl, Nat.le_of_ble_eq_true rfl⟩) (pV (q0 := 0) hK hPc hDc hN rfl rfl) rfl rfl hl.1 rfl (lv_room (Nat.le_of_ble_eq_true rfl)) dX6_readsPart_24 ⟨Nat.le_of_ble_eq_true rfl, Nat.le_of_ble_eq_true rfl⟩) hS (fun q _ h => hFc q h) hFc (fun r_103 u_103 t_103 H104 locs ht hvm hw hB hz1 hk1 hS => ?_)
    obtain ⟨hw, hens105, hens106, hens107, hens108, hens109, hens110⟩ := hw
    obtain ⟨hP1, hD1⟩ := hB
    rw [ht] at hP1
    have hw1 : r_103 = (f_X6_reads Rn9 0 1000).1 := congrArg Prod.fst hw
    have hw2 : u_103 = (f_X6_reads Rn9 0 1000).2 := congrArg Prod.snd hw
    clear hw
    subst hw1
    subst hw2
    obtain ⟨hP, hD⟩ := va_join (wc := cMd a cI Rn9) (wr := []) (w1 := cMd a cI ((f_X6_reads Rn9 0 1000).2)) hP hD [0, 1, 2, 3, 4, 5, 6] [] rfl rfl (by decide) (by decide) hk1 hFc hP1 hD1
    have hP : va_P (dC, dI) vwCl (cMd a cI ((f_X6_reads Rn9 0 1000).2)) H104 := hP.sub [0, 1, 2, 3, 4, 5, 6] rfl
    have hD : va_D (va_A (cMd a cI R) s.heap.size) (cMd a cI ((f_X6_reads Rn9 0 1000).2)) := hD.sub [0, 1, 2, 3, 4, 5, 6] (by decide) rfl
    obtain ⟨Rn111, eRn111⟩ : ∃ z : SR, z = (f_X6_reads Rn9 0 1000).2 := ⟨_, rfl⟩
    rw [sLet_eq, ← eRn111] at hR
    rw [← eRn111] at hP hD
    have ht112 : WFT Rn111 := by rw [eRn111]; exact hens105
    have hI113 : RA Rn111 := (by rw [eRn111]; exact ra_eq hI11 hens106)
    have hs114 : RS Rn111 := (by rw [eRn111]; exact rs_eq0 hs12 hens106)
    have hx115 : FX R Rn111 := (by rw [eRn111]; exact fx_tr hx13 hens107)
    have hmn116 : MN R Rn111 := (by rw [eRn111]; exact mn_tr hmn14 hens108)
    have hq117 : FX Rn9 Rn111 := by rw [eRn111]; exact hens107
    have hq118 : MN Rn9 Rn111 := by rw [eRn111]; exact hens108
    have hq119 : ((f_X6_reads Rn9 0 1000).1) = 0 ∨ (¬ Rn111 6 4 < 0 ∧ ¬ 1000 < Rn111 6 4) := by rw [eRn111]; exact hens109
    refine lv_goto (tgt := 62) hx hb dX6_readsPart_27 (by decide) ?_
    refine lv_istore_n (lv' := [(3, .int ((f_X6_reads Rn9 0 1000).1)), (0, .ref (a 0)), (1, .int p1), (2, .int p2)]) hx hb dX6_readsPart_62 rfl hl (by decide) rfl (fun ls hl => ?_)
    refine lv_iload_n hx hb dX6_readsPart_63 rfl (lv_at hl 0 rfl) ?_
    refine lv_if_eq (tgt := 77) hx hb dX6_readsPart_64 (by decide) (fun c120 => ?_) (fun c120 => ?_)
    · rw [if_pos c120] at hR
      refine lv_iload_n hx hb dX6_readsPart_77 rfl (lv_at hl 0 rfl) ?_
      exact W.zret (v := (f_X6_reads Rn9 0 1000).1) hx hb hr (nar_bool hens110) (fun t ht hWw => ⟨⟨(f_X6_reads Rn9 0 1000).1, Rn111, rfl, ⟨hR.symm.trans eR, ht112, hI113, hs114, hx115, hmn116, hens110⟩, by rw [ht]; exact hP, hD⟩, hS.F ht⟩) hS.2.2 dX6_readsPart_78
    · rw [if_neg c120] at hR
      refine lv_aload_n hx hb dX6_readsPart_67 rfl (lv_at hl 1 rfl) ?_
      refine lv_iload_n hx hb dX6_readsPart_68 rfl (lv_at hl 2 rfl) ?_
      refine lv_iload_n hx hb dX6_readsPart_69 rfl (lv_at hl 3 rfl) ?_
      refine lv_aload_n hx hb dX6_readsPart_70 rfl (lv_at hl 1 rfl) ?_
      refine va_get (D := (dC, dI)) (ci := 6) (v := .int (Rn111 6 4)) (C := RX6) (T := TX6) (N := 15) hx hb hts hin6 hown hK hP 0 rfl rfl 8 (by decide) (hts (.fieldLink RX6 132 "FeedDeskModel" "number" "I") (List.mem_of_getElem? (i := 2) rfl)) (fun _ h9 => h9) rfl dX6_readsPart_71 ?_
      have hPc : va_P (dC, dI) vwCl (cMd a cI Rn111) H104 := hP.sub [0, 1, 2, 3, 4, 5, 6] rfl
      have hDc : va_D (va_A (cMd a cI R) s.heap.size) (cMd a cI Rn111) := hD.sub [0, 1, 2, 3, 4, 5, 6] (by decide) rfl
      have hFc : ∀ q : Nat, va_A (cMd a cI Rn111) H104.size q → (va_A (cMd a cI R) s.heap.size) q := va_free hD hS hA [0, 1, 2, 3, 4, 5, 6] rfl
      refine va_callv (va_runV (As := [.int p1, .int p2, .int (Rn111 6 4)]) (rest := []) ⟨hx, hb, hml, hown, hts⟩ (c_X6_setByHand l dC dI cI cC cS a Rn111 H104.size p1 p2 (Rn111 6 4) h1 h2 hI113 hs114) (cwV 3 hts gX6_readsPart_X6_setByHand rfl rfl rfl (by decide +kernel) ⟨Nat.le_of_ble_eq_true rfl, Nat.le_of_ble_eq_true rfl⟩) (pV (q0 := 0) hK hPc hDc hN rfl rfl) rfl rfl hl.1 rfl (lv_room (Nat.le_of_ble_eq_true rfl)) dX6_readsPart_74 ⟨Nat.le_of_ble_eq_true rfl, Nat.le_of_ble_eq_true rfl⟩) hS (fun q _ h => hFc q h) hFc (fun u_121 t_121 H122 locs ht hvm hw hB hz1 hk1 hS => ?_)
      obtain ⟨hw, hens123, hens124, hens125, hens126, hens127⟩ := hw
      obtain ⟨hP1, hD1⟩ := hB
      rw [ht] at hP1
      subst hw
      obtain ⟨hP, hD⟩ := va_join (wc := cMd a cI Rn111) (wr := []) (w1 := cMd a cI (f_X6_setByHand Rn111 p1 p2 (Rn111 6 4))) hP hD [0, 1, 2, 3, 4, 5, 6] [] rfl rfl (by decide) (by decide) hk1 hFc hP1 hD1
      have hP : va_P (dC, dI) vwCl (cMd a cI (f_X6_setByHand Rn111 p1 p2 (Rn111 6 4))) H122 := hP.sub [0, 1, 2, 3, 4, 5, 6] rfl
      have hD : va_D (va_A (cMd a cI R) s.heap.size) (cMd a cI (f_X6_setByHand Rn111 p1 p2 (Rn111 6 4))) := hD.sub [0, 1, 2, 3, 4, 5, 6] (by decide) rfl
      obtain ⟨Rn128, eRn128⟩ : ∃ z : SR, z = (f_X6_setByHand Rn111 p1 p2 (Rn111 6 4)) := ⟨_, rfl⟩
      rw [sLet_eq, ← eRn128] at hR
      rw [← eRn128] at hP hD
      have ht129 : WFT Rn128 := (by rw [eRn128]; exact wft_eq ht112 hens127 hens126)
      have hI130 : RA Rn128 := by rw [eRn128]; exact hens123
      have hs131 : RS Rn128 := by rw [eRn128]; exact hens124
      have hx132 : FX R Rn128 := (by rw [eRn128]; exact fx_tr hx115 hens125)
      have hmn133 : MN R Rn128 := (by rw [eRn128]; exact mn_eq hmn116 hens127 hens126)
      have hq134 : FX Rn111 Rn128 := by rw [eRn128]; exact hens125
      have hq135 : Rn128 3 = Rn111 3 := by rw [eRn128]; exact hens126
      have hq136 : Rn128 6 = Rn111 6 := by rw [eRn128]; exact hens127
      refine lv_iload_n hx hb dX6_readsPart_77 rfl (lv_at hl 0 rfl) ?_
      exact W.zret (v := (f_X6_reads Rn9 0 1000).1) hx hb hr (nar_bool hens110) (fun t ht hWw => ⟨⟨(f_X6_reads Rn9 0 1000).1, Rn128, rfl, ⟨hR.symm.trans eR, ht129, hI130, hs131, hx132, hmn133, hens110⟩, by rw [ht]; exact hP, hD⟩, hS.F ht⟩) hS.2.2 dX6_readsPart_78
abbrev rm_X6_readsChannel : Room := { frames := 3, cells := 0, slots := 0, locals := 71 }
def f_X6_readsChannel_p19   : Nat → Int32 → Int32 → SR → (Int32 × SR)
  | 0, _, _, R_19 => (0, R_19)
  | n_19 + 1, x1_19, x2_19, R_19 => (if x2_19 = 0 then sLet ((f_X6_here R_19).2) (fun Rn26 : SR => (if (f_X6_partOf ((f_X6_here R_19).1)) = (-99) then (0, Rn26) else (if (f_X6_has x2_19 (f_X6_partOf ((f_X6_here R_19).1))) = 0 then sLet ((f_X6_readsPart Rn26 x1_19 (f_X6_partOf ((f_X6_here R_19).1))).2) (fun Rn52 : SR => (if ((f_X6_readsPart Rn26 x1_19 (f_X6_partOf ((f_X6_here R_19).1))).1) = 0 then (0, Rn52) else (f_X6_readsChannel_p19 n_19) x1_19 (x2_19 ||| (1 <<< ((f_X6_partOf ((f_X6_here R_19).1)) &&& 31))) Rn52)) else (0, Rn26)))) else sLet ((f_X6_here R_19).2) (fun Rn68 : SR => (if ((f_X6_here R_19).1) = 59 then sLet (sU Rn68 6 3 ((Rn68 6 3) + 1)) (fun Rn80 : SR => (1, Rn80)) else sLet ((f_X6_here Rn68).2) (fun Rn93 : SR => (if (f_X6_partOf ((f_X6_here Rn68).1)) = (-99) then (0, Rn93) else (if (f_X6_has x2_19 (f_X6_partOf ((f_X6_here Rn68).1))) = 0 then sLet ((f_X6_readsPart Rn93 x1_19 (f_X6_partOf ((f_X6_here Rn68).1))).2) (fun Rn119 : SR => (if ((f_X6_readsPart Rn93 x1_19 (f_X6_partOf ((f_X6_here Rn68).1))).1) = 0 then (0, Rn119) else (f_X6_readsChannel_p19 n_19) x1_19 (x2_19 ||| (1 <<< ((f_X6_partOf ((f_X6_here Rn68).1)) &&& 31))) Rn119)) else (0, Rn93)))))))
def f_X6_readsChannel (R : SR)  : Int32 × SR := sLet ((f_X6_reads R 0 11).2) (fun Rn9 : SR => (if ((f_X6_reads R 0 11).1) = 0 then (0, Rn9) else f_X6_readsChannel_p19 33 (Rn9 6 4) 0 Rn9))
set_option maxHeartbeats 4000000 in
set_option maxRecDepth 100000 in
theorem c_X6_readsChannel (l : Launch) (dC : Nat → ClassId) (dI : Nat → Nat → Nat) (cI cC cS : ClassId) (a : Nat → Nat) (R : SR) (sz : Nat)  (ht : WFT R) (hI : RA R) (hs : RS R) : Met l yX6_readsChannel wsX6_readsChannel rm_X6_readsChannel (PcG (dC, dI) (tyL cI cC cS) (cMd a cI R) sz [.ref (a 0)]) (va_Qi (fun (r : Int32) (u : SR) => (r, u) = f_X6_readsChannel R ∧ (WFT u) ∧ (RA u) ∧ (RS u) ∧ (FX R u) ∧ (MN R u) ∧ (r = 0 ∨ r = 1)) (fun u U => va_P (dC, dI) vwCl (cMd a cI u) U.heap ∧ va_D (va_A (cMd a cI R) sz) (cMd a cI u)) (va_A (cMd a cI R) sz)) 0 0 (va_A (cMd a cI R) sz) := by
  refine Met.ofW (cc := cX6_readsChannel) (maxL := 4) (ret := (some .boolean)) (by decide) rfl ?_
  intro p e s m args below meth c s₁ B hml hv
  obtain ⟨rfl, hsz, hP, hK, hD0, hN⟩ := hv
  have hx := B.exec
  have hb := B.bytes
  have hr := B.returns
  have hts := atoms_spec (ws := wsX6_readsChannel) B.pre
  have hown : s.vm.findClass RX6 = some m.cls := findClass_of_methodNamed B.named
  have hlocks := B.notSynchronized
  subst hsz
  have hD := hD0.self (sz := s.heap.size)
  have hA : ∀ q : Nat, s.heap.size ≤ q → (va_A (cMd a cI R) s.heap.size) q := fun q h => Or.inr h
  have hS : va_S (va_A (cMd a cI R) s.heap.size) s.heap s.heap [] := va_S.rf
  have hin6 : ∀ w ∈ wsX60, w ∈ wsX6_readsChannel := fun _ h => List.mem_cons_of_mem _ (List.mem_append_right _ h)
  have hx_0 : FX R R := fx_rf
  have hmn_0 : MN R R := mn_rf
  have hl := lv_entry [.ref (a 0)] (n := 4) (Nat.le_of_ble_eq_true rfl)
  rw [lg_entry_eq]
  generalize (lg_sl [.ref (a 0)] ++ List.replicate (4 - (lg_sl [.ref (a 0)]).length) Slot.unset).toArray = ls at hl ⊢
  have hl : lv_has ls 4 [(0, .ref (a 0))] := hl
  obtain ⟨R0, eR⟩ : ∃ z, z = f_X6_readsChannel R := ⟨_, rfl⟩
  have hR := eR
  rw [f_X6_readsChannel] at hR
  refine lv_aload_n hx hb dX6_readsChannel_0 rfl (lv_at hl 0 rfl) ?_
  refine lv_iconst (v := 0) hx hb dX6_readsChannel_1 (by decide) ?_
  refine lv_bipush (v := 11) hx hb dX6_readsChannel_2 (by decide) ?_
  have hPc : va_P (dC, dI) vwCl (cMd a cI R) s.heap := hP.sub [0, 1, 2, 3, 4, 5, 6] rfl
  have hDc : va_D (va_A (cMd a cI R) s.heap.size) (cMd a cI R) := hD.sub [0, 1, 2, 3, 4, 5, 6] (by decide) rfl
  have hFc : ∀ q : Nat, va_A (cMd a cI R) s.heap.size q → (va_A (cMd a cI R) s.heap.size) q := va_free hD hS hA [0, 1, 2, 3, 4, 5, 6] rfl
  refine va_calli (va_runV (As := [.int 0, .int 11]) (rest := []) ⟨hx, hb, hml, hown, hts⟩ (c_X6_reads l dC dI cI cC cS a R s.heap.size 0 11 ht) (cwV 2 hts gX6_readsChannel_X6_reads rfl rfl rfl (by decide +kernel) ⟨Nat.le_of_ble_eq_true rfl, Nat.le_of_ble_eq_true rfl⟩) (pV (q0 := 0) hK hPc hDc hN rfl rfl) rfl rfl hl.1 rfl (lv_room (Nat.le_of_ble_eq_true rfl)) dX6_readsChannel_4 ⟨Nat.le_of_ble_eq_true rfl, Nat.le_of_ble_eq_true rfl⟩) hS (fun q _ h => hFc q h) hFc (fun r_1 u_1 t_1 H2 locs ht hvm hw hB hz1 hk1 hS => ?_)
  obtain ⟨hw, hens3, hens4, hens5, hens6, hens7, hens8⟩ := hw
  obtain ⟨hP1, hD1⟩ := hB
  rw [ht] at hP1
  have hw1 : r_1 = (f_X6_reads R 0 11).1 := congrArg Prod.fst hw
  have hw2 : u_1 = (f_X6_reads R 0 11).2 := congrArg Prod.snd hw
  clear hw
  subst hw1
  subst hw2
  obtain ⟨hP, hD⟩ := va_join (wc := cMd a cI R) (wr := []) (w1 := cMd a cI ((f_X6_reads R 0 11).2)) hP hD [0, 1, 2, 3, 4, 5, 6] [] rfl rfl (by decide) (by decide) hk1 hFc hP1 hD1
  have hP : va_P (dC, dI) vwCl (cMd a cI ((f_X6_reads R 0 11).2)) H2 := hP.sub [0, 1, 2, 3, 4, 5, 6] rfl
  have hD : va_D (va_A (cMd a cI R) s.heap.size) (cMd a cI ((f_X6_reads R 0 11).2)) := hD.sub [0, 1, 2, 3, 4, 5, 6] (by decide) rfl
  obtain ⟨Rn9, eRn9⟩ : ∃ z : SR, z = (f_X6_reads R 0 11).2 := ⟨_, rfl⟩
  rw [sLet_eq, ← eRn9] at hR
  rw [← eRn9] at hP hD
  have ht10 : WFT Rn9 := by rw [eRn9]; exact hens3
  have hI11 : RA Rn9 := (by rw [eRn9]; exact ra_eq hI hens4)
  have hs12 : RS Rn9 := (by rw [eRn9]; exact rs_eq0 hs hens4)
  have hx13 : FX R Rn9 := by rw [eRn9]; exact hens5
  have hmn14 : MN R Rn9 := by rw [eRn9]; exact hens6
  have hq15 : ((f_X6_reads R 0 11).1) = 0 ∨ (¬ Rn9 6 4 < 0 ∧ ¬ 11 < Rn9 6 4) := by rw [eRn9]; exact hens7
  refine lv_if_ne (tgt := 12) hx hb dX6_readsChannel_7 (by decide) (fun c16 => ?_) (fun c16 => ?_)
  · rw [if_neg c16] at hR
    have hnv17 : vp_in (Rn9 6 4) 12 := (num_vp (n := 11) hq15 c16)
    refine lv_aload_n hx hb dX6_readsChannel_12 rfl (lv_at hl 0 rfl) ?_
    refine va_get (D := (dC, dI)) (ci := 6) (v := .int (Rn9 6 4)) (C := RX6) (T := TX6) (N := 15) hx hb hts hin6 hown hK hP 0 rfl rfl 8 (by decide) (hts (.fieldLink RX6 132 "FeedDeskModel" "number" "I") (List.mem_of_getElem? (i := 1) rfl)) (fun _ h9 => h9) rfl dX6_readsChannel_13 ?_
    refine lv_istore_n (lv' := [(1, .int (Rn9 6 4)), (0, .ref (a 0))]) hx hb dX6_readsChannel_16 rfl hl (by decide) rfl (fun ls hl => ?_)
    refine lv_iconst (v := 0) hx hb dX6_readsChannel_17 (by decide) ?_
    refine lv_istore_n (lv' := [(2, .int 0), (1, .int (Rn9 6 4)), (0, .ref (a 0))]) hx hb dX6_readsChannel_18 rfl hl (by decide) rfl (fun ls hl => ?_)
    have hL_19 : ∀ n_19 : Nat, ∀ (j_19 : Nat), ∀ (x1_19 : Int32) (x2_19 : Int32) (R_19 : SR), x2_19 = nI j_19 → j_19 < 32 → 32 ≤ j_19 + n_19 → vp_in x1_19 12 → WFT R_19 → RA R_19 → RS R_19 → FX R R_19 → MN R R_19 → R0 = f_X6_readsChannel_p19 n_19 x1_19 x2_19 R_19 → ∀ (H : Heap) (locs : List Loc) (ls : Array Slot), va_P (dC, dI) vwCl (cMd a cI R_19) H → va_D (va_A (cMd a cI R) s.heap.size) (cMd a cI R_19) → va_S (va_A (cMd a cI R) s.heap.size) s.heap H locs → lv_has ls 4 [(0, .ref (a 0)), (1, .int x1_19), (2, .int x2_19)] → W p l e (headSpec wsX6_readsChannel rm_X6_readsChannel).room s m ([.ref (a 0)] : List Value).toArray below meth c H locs 0 0 (MQ below (va_Qi (fun (r : Int32) (u : SR) => (r, u) = f_X6_readsChannel R ∧ (WFT u) ∧ (RA u) ∧ (RS u) ∧ (FX R u) ∧ (MN R u) ∧ (r = 0 ∨ r = 1)) (fun u U => va_P (dC, dI) vwCl (cMd a cI u) U.heap ∧ va_D (va_A (cMd a cI R) s.heap.size) (cMd a cI u)) (va_A (cMd a cI R) s.heap.size)) ([.ref (a 0)] : List Value).toArray s 0 0 (va_A (cMd a cI R) s.heap.size)) (F0 m 19 ls []) := by
      intro n_19
      induction n_19 with
      | zero =>
        intro j_19 x1_19 x2_19 R_19 ex2_19 hj_19 hn_19 ev1_19 ht_19 hI_19 hs_19 hx_19 hmn_19
        exact absurd hn_19 (by omega)
      | succ n_19 ih_19 =>
        intro j_19 x1_19 x2_19 R_19 ex2_19 hj_19 hn_19 ev1_19 ht_19 hI_19 hs_19 hx_19 hmn_19 hR H locs ls hP hD hS hl
        rw [f_X6_readsChannel_p19] at hR
        refine lv_iload_n hx hb dX6_readsChannel_19 rfl (lv_at hl 2 rfl) ?_
        refine lv_if_eq (tgt := 32) hx hb dX6_readsChannel_20 (by decide) (fun c18 => ?_) (fun c18 => ?_)
        · rw [if_pos c18] at hR
          refine lv_aload_n hx hb dX6_readsChannel_32 rfl (lv_at hl 0 rfl) ?_
          have hPc : va_P (dC, dI) vwCl (cMd a cI R_19) H := hP.sub [0, 1, 2, 3, 4, 5, 6] rfl
          have hDc : va_D (va_A (cMd a cI R) s.heap.size) (cMd a cI R_19) := hD.sub [0, 1, 2, 3, 4, 5, 6] (by decide) rfl
          have hFc : ∀ q : Nat, va_A (cMd a cI R_19) H.size q → (va_A (cMd a cI R) s.heap.size) q := va_free hD hS hA [0, 1, 2, 3, 4, 5, 6] rfl
          refine va_calli (va_runV (As := []) (rest := []) ⟨hx, hb, hml, hown, hts⟩ (c_X6_here l dC dI cI cC cS a R_19 H.size ht_19) (cwV 0 hts gX6_readsChannel_X6_here rfl rfl rfl (by decide +kernel) ⟨Nat.le_of_ble_eq_true rfl, Nat.le_of_ble_eq_true rfl⟩) (pV (q0 := 0) hK hPc hDc hN rfl rfl) rfl rfl hl.1 rfl (lv_room (Nat.le_of_ble_eq_true rfl)) dX6_readsChannel_33 ⟨Nat.le_of_ble_eq_true rfl, Nat.le_of_ble_eq_true rfl⟩) hS (fun q _ h => hFc q h) hFc (fun r_19 u_19 t_19 H20 locs ht hvm hw hB hz1 hk1 hS => ?_)
          obtain ⟨hw, hens21, hens22, hens23, hens24, hens25⟩ := hw
          obtain ⟨hP1, hD1⟩ := hB
          rw [ht] at hP1
          have hw1 : r_19 = (f_X6_here R_19).1 := congrArg Prod.fst hw
          have hw2 : u_19 = (f_X6_here R_19).2 := congrArg Prod.snd hw
          clear hw
          subst hw1
          subst hw2
          obtain ⟨hP, hD⟩ := va_join (wc := cMd a cI R_19) (wr := []) (w1 := cMd a cI ((f_X6_here R_19).2)) hP hD [0, 1, 2, 3, 4, 5, 6] [] rfl rfl (by decide) (by decide) hk1 hFc hP1 hD1
          have hP : va_P (dC, dI) vwCl (cMd a cI ((f_X6_here R_19).2)) H20 := hP.sub [0, 1, 2, 3, 4, 5, 6] rfl
          have hD : va_D (va_A (cMd a cI R) s.heap.size) (cMd a cI ((f_X6_here R_19).2)) := hD.sub [0, 1, 2, 3, 4, 5, 6] (by decide) rfl
          obtain ⟨Rn26, eRn26⟩ : ∃ z : SR, z = (f_X6_here R_19).2 := ⟨_, rfl⟩
          rw [sLet_eq, ← eRn26] at hR
          rw [← eRn26] at hP hD
          have ht27 : WFT Rn26 := by rw [eRn26]; exact hens21
          have hI28 : RA Rn26 := (by rw [eRn26]; exact ra_eq hI_19 hens22)
          have hs29 : RS Rn26 := (by rw [eRn26]; exact rs_eq0 hs_19 hens22)
          have hx30 : FX R Rn26 := (by rw [eRn26]; exact fx_tr hx_19 hens23)
          have hmn31 : MN R Rn26 := (by rw [eRn26]; exact mn_tr hmn_19 hens24)
          have hq32 : Rn26 0 = R_19 0 := by rw [eRn26]; exact hens22
          have hq33 : FX R_19 Rn26 := by rw [eRn26]; exact hens23
          have hq34 : MN R_19 Rn26 := by rw [eRn26]; exact hens24
          have hq35 : ((f_X6_here R_19).1) = -1 ∨ ¬ Rn26 6 2 ≤ Rn26 6 3 := by rw [eRn26]; exact hens25
          have hFc : ∀ q : Nat, va_A [] H20.size q → (va_A (cMd a cI R) s.heap.size) q := roF hS hA
          refine va_calli (va_runS (As := [.int ((f_X6_here R_19).1)]) (rest := []) ⟨hx, hb, hml, hown, hts⟩ (c_X6_partOf l dC dI cI cC cS H20.size ((f_X6_here R_19).1)) (va_cwS 1 hts gX6_readsChannel_X6_partOf rfl rfl rfl (by decide +kernel) ⟨Nat.le_of_ble_eq_true rfl, Nat.le_of_ble_eq_true rfl⟩) (pS hK (va_P_nil) (va_D_nil) hN) rfl rfl hl.1 rfl (lv_room (Nat.le_of_ble_eq_true rfl)) dX6_readsChannel_36 ⟨Nat.le_of_ble_eq_true rfl, Nat.le_of_ble_eq_true rfl⟩) hS (fun q _ h => hFc q h) hFc (fun r_36 u_36 t_36 H37 locs ht hvm hw hB hz1 hk1 hS => ?_)
          obtain ⟨hw, hre38⟩ := hw
          subst hw
          have hP := ro_keep hP hk1
          refine lv_istore_n (lv' := [(3, .int (f_X6_partOf ((f_X6_here R_19).1))), (0, .ref (a 0)), (1, .int x1_19), (2, .int x2_19)]) hx hb dX6_readsChannel_39 rfl hl (by decide) rfl (fun ls hl => ?_)
          refine lv_iload_n hx hb dX6_readsChannel_40 rfl (lv_at hl 0 rfl) ?_
          refine lv_bipush (v := (-99)) hx hb dX6_readsChannel_41 (by decide) ?_
          refine lv_icmp_eq (tgt := 54) hx hb dX6_readsChannel_43 (by decide) (fun c39 => ?_) (fun c39 => ?_)
          · rw [if_pos c39] at hR
            refine lv_iconst (v := 0) hx hb dX6_readsChannel_54 (by decide) ?_
            exact W.zret (v := 0) hx hb hr rfl (fun t ht hWw => ⟨⟨0, Rn26, rfl, ⟨hR.symm.trans eR, ht27, hI28, hs29, hx30, hmn31, (Or.inl rfl)⟩, by rw [ht]; exact hP, hD⟩, hS.F ht⟩) hS.2.2 dX6_readsChannel_55
          · rw [if_neg c39] at hR
            have hpv := or_99 hre38 c39
            obtain ⟨ip, hip, eip⟩ := vp_in_of hpv (by decide)
            refine lv_iload_n hx hb dX6_readsChannel_46 rfl (lv_at hl 3 rfl) ?_
            refine lv_iload_n hx hb dX6_readsChannel_47 rfl (lv_at hl 0 rfl) ?_
            have hFc : ∀ q : Nat, va_A [] H37.size q → (va_A (cMd a cI R) s.heap.size) q := roF hS hA
            refine va_calli (va_runS (As := [.int x2_19, .int (f_X6_partOf ((f_X6_here R_19).1))]) (rest := []) ⟨hx, hb, hml, hown, hts⟩ (c_X6_has l dC dI cI cC cS H37.size x2_19 (f_X6_partOf ((f_X6_here R_19).1))) (va_cwS 2 hts gX6_readsChannel_X6_has rfl rfl rfl (by decide +kernel) ⟨Nat.le_of_ble_eq_true rfl, Nat.le_of_ble_eq_true rfl⟩) (pS hK (va_P_nil) (va_D_nil) hN) rfl rfl hl.1 rfl (lv_room (Nat.le_of_ble_eq_true rfl)) dX6_readsChannel_48 ⟨Nat.le_of_ble_eq_true rfl, Nat.le_of_ble_eq_true rfl⟩) hS (fun q _ h => hFc q h) hFc (fun r_40 u_40 t_40 H41 locs ht hvm hw hB hz1 hk1 hS => ?_)
            obtain ⟨hw, hre42⟩ := hw
            subst hw
            have hP := ro_keep hP hk1
            refine lv_if_eq (tgt := 56) hx hb dX6_readsChannel_51 (by decide) (fun c43 => ?_) (fun c43 => ?_)
            · rw [if_pos c43] at hR
              have htst := told_step hj_19 hip (by rw [← ex2_19, ← eip]; exact c43)
              refine lv_iload_n hx hb dX6_readsChannel_56 rfl (lv_at hl 3 rfl) ?_
              refine lv_iconst (v := 1) hx hb dX6_readsChannel_57 (by decide) ?_
              refine lv_iload_n hx hb dX6_readsChannel_58 rfl (lv_at hl 0 rfl) ?_
              refine lv_ishl hx hb dX6_readsChannel_59 ?_
              refine lv_ior hx hb dX6_readsChannel_60 ?_
              refine lv_istore_n (lv' := [(2, .int (x2_19 ||| (1 <<< ((f_X6_partOf ((f_X6_here R_19).1)) &&& 31)))), (3, .int (f_X6_partOf ((f_X6_here R_19).1))), (0, .ref (a 0)), (1, .int x1_19)]) hx hb dX6_readsChannel_61 rfl hl (by decide) rfl (fun ls hl => ?_)
              refine lv_aload_n hx hb dX6_readsChannel_62 rfl (lv_at hl 2 rfl) ?_
              refine lv_iload_n hx hb dX6_readsChannel_63 rfl (lv_at hl 3 rfl) ?_
              refine lv_iload_n hx hb dX6_readsChannel_64 rfl (lv_at hl 1 rfl) ?_
              have hPc : va_P (dC, dI) vwCl (cMd a cI Rn26) H41 := hP.sub [0, 1, 2, 3, 4, 5, 6] rfl
              have hDc : va_D (va_A (cMd a cI R) s.heap.size) (cMd a cI Rn26) := hD.sub [0, 1, 2, 3, 4, 5, 6] (by decide) rfl
              have hFc : ∀ q : Nat, va_A (cMd a cI Rn26) H41.size q → (va_A (cMd a cI R) s.heap.size) q := va_free hD hS hA [0, 1, 2, 3, 4, 5, 6] rfl
              refine va_calli (va_runV (As := [.int x1_19, .int (f_X6_partOf ((f_X6_here R_19).1))]) (rest := []) ⟨hx, hb, hml, hown, hts⟩ (c_X6_readsPart l dC dI cI cC cS a Rn26 H41.size x1_19 (f_X6_partOf ((f_X6_here R_19).1)) ev1_19 hpv (here_lt2 hq35 c39) ht27 hI28 hs29) (cwV 2 hts gX6_readsChannel_X6_readsPart rfl rfl rfl (by decide +kernel) ⟨Nat.le_of_ble_eq_true rfl, Nat.le_of_ble_eq_true rfl⟩) (pV (q0 := 0) hK hPc hDc hN rfl rfl) rfl rfl hl.1 rfl (lv_room (Nat.le_of_ble_eq_true rfl)) dX6_readsChannel_65 ⟨Nat.le_of_ble_eq_true rfl, Nat.le_of_ble_eq_true rfl⟩) hS (fun q _ h => hFc q h) hFc (fun r_44 u_44 t_44 H45 locs ht hvm hw hB hz1 hk1 hS => ?_)
              obtain ⟨hw, hens46, hens47, hens48, hens49, hens50, hens51⟩ := hw
              obtain ⟨hP1, hD1⟩ := hB
              rw [ht] at hP1
              have hw1 : r_44 = (f_X6_readsPart Rn26 x1_19 (f_X6_partOf ((f_X6_here R_19).1))).1 := congrArg Prod.fst hw
              have hw2 : u_44 = (f_X6_readsPart Rn26 x1_19 (f_X6_partOf ((f_X6_here R_19).1))).2 := congrArg Prod.snd hw
              clear hw
              subst hw1
              subst hw2
              obtain ⟨hP, hD⟩ := va_join (wc := cMd a cI Rn26) (wr := []) (w1 := cMd a cI ((f_X6_readsPart Rn26 x1_19 (f_X6_partOf ((f_X6_here R_19).1))).2)) hP hD [0, 1, 2, 3, 4, 5, 6] [] rfl rfl (by decide) (by decide) hk1 hFc hP1 hD1
              have hP : va_P (dC, dI) vwCl (cMd a cI ((f_X6_readsPart Rn26 x1_19 (f_X6_partOf ((f_X6_here R_19).1))).2)) H45 := hP.sub [0, 1, 2, 3, 4, 5, 6] rfl
              have hD : va_D (va_A (cMd a cI R) s.heap.size) (cMd a cI ((f_X6_readsPart Rn26 x1_19 (f_X6_partOf ((f_X6_here R_19).1))).2)) := hD.sub [0, 1, 2, 3, 4, 5, 6] (by decide) rfl
              obtain ⟨Rn52, eRn52⟩ : ∃ z : SR, z = (f_X6_readsPart Rn26 x1_19 (f_X6_partOf ((f_X6_here R_19).1))).2 := ⟨_, rfl⟩
              rw [sLet_eq, ← eRn52] at hR
              rw [← eRn52] at hP hD
              have ht53 : WFT Rn52 := by rw [eRn52]; exact hens46
              have hI54 : RA Rn52 := by rw [eRn52]; exact hens47
              have hs55 : RS Rn52 := by rw [eRn52]; exact hens48
              have hx56 : FX R Rn52 := (by rw [eRn52]; exact fx_tr hx30 hens49)
              have hmn57 : MN R Rn52 := (by rw [eRn52]; exact mn_tr hmn31 hens50)
              have hq58 : FX Rn26 Rn52 := by rw [eRn52]; exact hens49
              have hq59 : MN Rn26 Rn52 := by rw [eRn52]; exact hens50
              refine lv_if_ne (tgt := 73) hx hb dX6_readsChannel_68 (by decide) (fun c60 => ?_) (fun c60 => ?_)
              · rw [if_neg c60] at hR
                refine lv_goto (tgt := 19) hx hb dX6_readsChannel_73 (by decide) ?_
                exact ih_19 (j_19 ||| 2 ^ ip) x1_19 (x2_19 ||| (1 <<< ((f_X6_partOf ((f_X6_here R_19).1)) &&& 31))) Rn52 (by rw [ex2_19, eip]; exact htst.1) htst.2.2 (by have := htst.2.1; omega) ev1_19 ht53 hI54 hs55 hx56 hmn57 hR _ _ _ hP hD hS (lv_sub hl [2, 3, 0] rfl)
              · rw [if_pos c60] at hR
                refine lv_iconst (v := 0) hx hb dX6_readsChannel_71 (by decide) ?_
                exact W.zret (v := 0) hx hb hr rfl (fun t ht hWw => ⟨⟨0, Rn52, rfl, ⟨hR.symm.trans eR, ht53, hI54, hs55, hx56, hmn57, (Or.inl rfl)⟩, by rw [ht]; exact hP, hD⟩, hS.F ht⟩) hS.2.2 dX6_readsChannel_72
            · rw [if_neg c43] at hR
              refine lv_iconst (v := 0) hx hb dX6_readsChannel_54 (by decide) ?_
              exact W.zret (v := 0) hx hb hr rfl (fun t ht hWw => ⟨⟨0, Rn26, rfl, ⟨hR.symm.trans eR, ht27, hI28, hs29, hx30, hmn31, (Or.inl rfl)⟩, by rw [ht]; exact hP, hD⟩, hS.F ht⟩) hS.2.2 dX6_readsChannel_55
        · rw [if_neg c18] at hR
          refine lv_aload_n hx hb dX6_readsChannel_23 rfl (lv_at hl 0 rfl) ?_
          have hPc : va_P (dC, dI) vwCl (cMd a cI R_19) H := hP.sub [0, 1, 2, 3, 4, 5, 6] rfl
          have hDc : va_D (va_A (cMd a cI R) s.heap.size) (cMd a cI R_19) := hD.sub [0, 1, 2, 3, 4, 5, 6] (by decide) rfl
          have hFc : ∀ q : Nat, va_A (cMd a cI R_19) H.size q → (va_A (cMd a cI R) s.heap.size) q := va_free hD hS hA [0, 1, 2, 3, 4, 5, 6] rfl
          refine va_calli (va_runV (As := []) (rest := []) ⟨hx, hb, hml, hown, hts⟩ (c_X6_here l dC dI cI cC cS a R_19 H.size ht_19) (cwV 0 hts gX6_readsChannel_X6_here rfl rfl rfl (by decide +kernel) ⟨Nat.le_of_ble_eq_true rfl, Nat.le_of_ble_eq_true rfl⟩) (pV (q0 := 0) hK hPc hDc hN rfl rfl) rfl rfl hl.1 rfl (lv_room (Nat.le_of_ble_eq_true rfl)) dX6_readsChannel_24 ⟨Nat.le_of_ble_eq_true rfl, Nat.le_of_ble_eq_true rfl⟩) hS (fun q _ h => hFc q h) hFc (fun r_61 u_61 t_61 H62 locs ht hvm hw hB hz1 hk1 hS => ?_)
          obtain ⟨hw, hens63, hens64, hens65, hens66, hens67⟩ := hw
          obtain ⟨hP1, hD1⟩ := hB
          rw [ht] at hP1
          have hw1 : r_61 = (f_X6_here R_19).1 := congrArg Prod.fst hw
          have hw2 : u_61 = (f_X6_here R_19).2 := congrArg Prod.snd hw
          clear hw
          subst hw1
          subst hw2
          obtain ⟨hP, hD⟩ := va_join (wc := cMd a cI R_19) (wr := []) (w1 := cMd a cI ((f_X6_here R_19).2)) hP hD [0, 1, 2, 3, 4, 5, 6] [] rfl rfl (by decide) (by decide) hk1 hFc hP1 hD1
          have hP : va_P (dC, dI) vwCl (cMd a cI ((f_X6_here R_19).2)) H62 := hP.sub [0, 1, 2, 3, 4, 5, 6] rfl
          have hD : va_D (va_A (cMd a cI R) s.heap.size) (cMd a cI ((f_X6_here R_19).2)) := hD.sub [0, 1, 2, 3, 4, 5, 6] (by decide) rfl
          obtain ⟨Rn68, eRn68⟩ : ∃ z : SR, z = (f_X6_here R_19).2 := ⟨_, rfl⟩
          rw [sLet_eq, ← eRn68] at hR
          rw [← eRn68] at hP hD
          have ht69 : WFT Rn68 := by rw [eRn68]; exact hens63
          have hI70 : RA Rn68 := (by rw [eRn68]; exact ra_eq hI_19 hens64)
          have hs71 : RS Rn68 := (by rw [eRn68]; exact rs_eq0 hs_19 hens64)
          have hx72 : FX R Rn68 := (by rw [eRn68]; exact fx_tr hx_19 hens65)
          have hmn73 : MN R Rn68 := (by rw [eRn68]; exact mn_tr hmn_19 hens66)
          have hq74 : Rn68 0 = R_19 0 := by rw [eRn68]; exact hens64
          have hq75 : FX R_19 Rn68 := by rw [eRn68]; exact hens65
          have hq76 : MN R_19 Rn68 := by rw [eRn68]; exact hens66
          have hq77 : ((f_X6_here R_19).1) = -1 ∨ ¬ Rn68 6 2 ≤ Rn68 6 3 := by rw [eRn68]; exact hens67
          refine lv_bipush (v := 59) hx hb dX6_readsChannel_27 (by decide) ?_
          refine lv_icmp_eq (tgt := 76) hx hb dX6_readsChannel_29 (by decide) (fun c78 => ?_) (fun c78 => ?_)
          · rw [if_pos c78] at hR
            refine lv_aload_n hx hb dX6_readsChannel_76 rfl (lv_at hl 0 rfl) ?_
            refine lv_dup hx hb dX6_readsChannel_77 rfl ?_
            refine va_get (D := (dC, dI)) (ci := 6) (v := .int (Rn68 6 3)) (C := RX6) (T := TX6) (N := 15) hx hb hts hin6 hown hK hP 0 rfl rfl 7 (by decide) (hts (.fieldLink RX6 125 "FeedDeskModel" "next" "I") (List.mem_of_getElem? (i := 2) rfl)) (fun _ h9 => h9) rfl dX6_readsChannel_78 ?_
            refine lv_iconst (v := 1) hx hb dX6_readsChannel_81 (by decide) ?_
            refine lv_iadd hx hb dX6_readsChannel_82 ?_
            refine va_put (D := (dC, dI)) (ci := 6) (v := .int ((Rn68 6 3) + 1)) (ty := .int) (C := RX6) (T := TX6) (N := 15) hx hb hts hin6 tyX6 tyX6_ok nmX6 hown hK hP hD hS 0 rfl rfl 7 (by decide) (hts (.fieldLink RX6 125 "FeedDeskModel" "next" "I") (List.mem_of_getElem? (i := 2) rfl)) (fun _ h9 => h9) rfl (by decide +kernel) rfl rfl (Nat.le_of_ble_eq_true rfl) dX6_readsChannel_83 (fun H79 locs hP hD hS => ?_)
            have hP : va_P (dC, dI) vwCl (cMd a cI (sU Rn68 6 3 ((Rn68 6 3) + 1))) H79 := hP
            have hD : va_D (va_A (cMd a cI R) s.heap.size) (cMd a cI (sU Rn68 6 3 ((Rn68 6 3) + 1))) := hD
            obtain ⟨Rn80, eRn80⟩ : ∃ z : SR, z = sU Rn68 6 3 ((Rn68 6 3) + 1) := ⟨_, rfl⟩
            rw [sLet_eq, ← eRn80] at hR
            rw [← eRn80] at hP hD
            have ht81 : WFT Rn80 := (by rw [eRn80]; exact wft_inc ht69 (here_lt hq77 c78 (by decide)))
            have hI82 : RA Rn80 := (by rw [eRn80]; exact hI70)
            have hs83 : RS Rn80 := (by rw [eRn80]; exact hs71)
            have hx84 : FX R Rn80 := (by rw [eRn80]; exact hx72)
            have hmn85 : MN R Rn80 := (by rw [eRn80]; exact mn_inc hmn73 ht69 (here_lt hq77 c78 (by decide)))
            refine lv_iconst (v := 1) hx hb dX6_readsChannel_86 (by decide) ?_
            exact W.zret (v := 1) hx hb hr rfl (fun t ht hWw => ⟨⟨1, Rn80, rfl, ⟨hR.symm.trans eR, ht81, hI82, hs83, hx84, hmn85, (Or.inr rfl)⟩, by rw [ht]; exact hP, hD⟩, hS.F ht⟩) hS.2.2 dX6_readsChannel_87
          · rw [if_neg c78] at hR
            refine lv_aload_n hx hb dX6_readsChannel_32 rfl (lv_at hl 0 rfl) ?_
            have hPc : va_P (dC, dI) vwCl (cMd a cI Rn68) H62 := hP.sub [0, 1, 2, 3, 4, 5, 6] rfl
            have hDc : va_D (va_A (cMd a cI R) s.heap.size) (cMd a cI Rn68) := hD.sub [0, 1, 2, 3, 4, 5, 6] (by decide) rfl
            have hFc : ∀ q : Nat, va_A (cMd a cI Rn68) H62.size q → (va_A (cMd a cI R) s.heap.size) q := va_free hD hS hA [0, 1, 2, 3, 4, 5, 6] rfl
            refine va_calli (va_runV (As := []) (rest := []) ⟨hx, hb, hml, hown, hts⟩ (c_X6_here l dC dI cI cC cS a Rn68 H62.size ht69) (cwV 0 hts gX6_readsChannel_X6_here rfl rfl rfl (by decide +kernel) ⟨Nat.le_of_ble_eq_true rfl, Nat.le_of_ble_eq_true rfl⟩) (pV (q0 := 0) hK hPc hDc hN rfl rfl) rfl rfl hl.1 rfl (lv_room (Nat.le_of_ble_eq_true rfl)) dX6_readsChannel_33 ⟨Nat.le_of_ble_eq_true rfl, Nat.le_of_ble_eq_true rfl⟩) hS (fun q _ h => hFc q h) hFc (fun r_86 u_86 t_86 H87 locs ht hvm hw hB hz1 hk1 hS => ?_)
            obtain ⟨hw, hens88, hens89, hens90, hens91, hens92⟩ := hw
            obtain ⟨hP1, hD1⟩ := hB
            rw [ht] at hP1
            have hw1 : r_86 = (f_X6_here Rn68).1 := congrArg Prod.fst hw
            have hw2 : u_86 = (f_X6_here Rn68).2 := congrArg Prod.snd hw
            clear hw
            subst hw1
            subst hw2
            obtain ⟨hP, hD⟩ := va_join (wc := cMd a cI Rn68) (wr := []) (w1 := cMd a cI ((f_X6_here Rn68).2)) hP hD [0, 1, 2, 3, 4, 5, 6] [] rfl rfl (by decide) (by decide) hk1 hFc hP1 hD1
            have hP : va_P (dC, dI) vwCl (cMd a cI ((f_X6_here Rn68).2)) H87 := hP.sub [0, 1, 2, 3, 4, 5, 6] rfl
            have hD : va_D (va_A (cMd a cI R) s.heap.size) (cMd a cI ((f_X6_here Rn68).2)) := hD.sub [0, 1, 2, 3, 4, 5, 6] (by decide) rfl
            obtain ⟨Rn93, eRn93⟩ : ∃ z : SR, z = (f_X6_here Rn68).2 := ⟨_, rfl⟩
            rw [sLet_eq, ← eRn93] at hR
            rw [← eRn93] at hP hD
            have ht94 : WFT Rn93 := by rw [eRn93]; exact hens88
            have hI95 : RA Rn93 := (by rw [eRn93]; exact ra_eq hI70 hens89)
            have hs96 : RS Rn93 := (by rw [eRn93]; exact rs_eq0 hs71 hens89)
            have hx97 : FX R Rn93 := (by rw [eRn93]; exact fx_tr hx72 hens90)
            have hmn98 : MN R Rn93 := (by rw [eRn93]; exact mn_tr hmn73 hens91)
            have hq99 : Rn93 0 = Rn68 0 := by rw [eRn93]; exact hens89
            have hq100 : FX Rn68 Rn93 := by rw [eRn93]; exact hens90
            have hq101 : MN Rn68 Rn93 := by rw [eRn93]; exact hens91
            have hq102 : ((f_X6_here Rn68).1) = -1 ∨ ¬ Rn93 6 2 ≤ Rn93 6 3 := by rw [eRn93]; exact hens92
            have hFc : ∀ q : Nat, va_A [] H87.size q → (va_A (cMd a cI R) s.heap.size) q := roF hS hA
            refine va_calli (va_runS (As := [.int ((f_X6_here Rn68).1)]) (rest := []) ⟨hx, hb, hml, hown, hts⟩ (c_X6_partOf l dC dI cI cC cS H87.size ((f_X6_here Rn68).1)) (va_cwS 1 hts gX6_readsChannel_X6_partOf rfl rfl rfl (by decide +kernel) ⟨Nat.le_of_ble_eq_true rfl, Nat.le_of_ble_eq_true rfl⟩) (pS hK (va_P_nil) (va_D_nil) hN) rfl rfl hl.1 rfl (lv_room (Nat.le_of_ble_eq_true rfl)) dX6_readsChannel_36 ⟨Nat.le_of_ble_eq_true rfl, Nat.le_of_ble_eq_true rfl⟩) hS (fun q _ h => hFc q h) hFc (fun r_103 u_103 t_103 H104 locs ht hvm hw hB hz1 hk1 hS => ?_)
            obtain ⟨hw, hre105⟩ := hw
            subst hw
            have hP := ro_keep hP hk1
            refine lv_istore_n (lv' := [(3, .int (f_X6_partOf ((f_X6_here Rn68).1))), (0, .ref (a 0)), (1, .int x1_19), (2, .int x2_19)]) hx hb dX6_readsChannel_39 rfl hl (by decide) rfl (fun ls hl => ?_)
            refine lv_iload_n hx hb dX6_readsChannel_40 rfl (lv_at hl 0 rfl) ?_
            refine lv_bipush (v := (-99)) hx hb dX6_readsChannel_41 (by decide) ?_
            refine lv_icmp_eq (tgt := 54) hx hb dX6_readsChannel_43 (by decide) (fun c106 => ?_) (fun c106 => ?_)
            · rw [if_pos c106] at hR
              refine lv_iconst (v := 0) hx hb dX6_readsChannel_54 (by decide) ?_
              exact W.zret (v := 0) hx hb hr rfl (fun t ht hWw => ⟨⟨0, Rn93, rfl, ⟨hR.symm.trans eR, ht94, hI95, hs96, hx97, hmn98, (Or.inl rfl)⟩, by rw [ht]; exact hP, hD⟩, hS.F ht⟩) hS.2.2 dX6_readsChannel_55
            · rw [if_neg c106] at hR
              have hpv := or_99 hre105 c106
              obtain ⟨ip, hip, eip⟩ := vp_in_of hpv (by decide)
              refine lv_iload_n hx hb dX6_readsChannel_46 rfl (lv_at hl 3 rfl) ?_
              refine lv_iload_n hx hb dX6_readsChannel_47 rfl (lv_at hl 0 rfl) ?_
              have hFc : ∀ q : Nat, va_A [] H104.size q → (va_A (cMd a cI R) s.heap.size) q := roF hS hA
              refine va_calli (va_runS (As := [.int x2_19, .int (f_X6_partOf ((f_X6_here Rn68).1))]) (rest := []) ⟨hx, hb, hml, hown, hts⟩ (c_X6_has l dC dI cI cC cS H104.size x2_19 (f_X6_partOf ((f_X6_here Rn68).1))) (va_cwS 2 hts gX6_readsChannel_X6_has rfl rfl rfl (by decide +kernel) ⟨Nat.le_of_ble_eq_true rfl, Nat.le_of_ble_eq_true rfl⟩) (pS hK (va_P_nil) (va_D_nil) hN) rfl rfl hl.1 rfl (lv_room (Nat.le_of_ble_eq_true rfl)) dX6_readsChannel_48 ⟨Nat.le_of_ble_eq_true rfl, Nat.le_of_ble_eq_true rfl⟩) hS (fun q _ h => hFc q h) hFc (fun r_107 u_107 t_107 H108 locs ht hvm hw hB hz1 hk1 hS => ?_)
              obtain ⟨hw, hre109⟩ := hw
              subst hw
              have hP := ro_keep hP hk1
              refine lv_if_eq (tgt := 56) hx hb dX6_readsChannel_51 (by decide) (fun c110 => ?_) (fun c110 => ?_)
              · rw [if_pos c110] at hR
                have htst := told_step hj_19 hip (by rw [← ex2_19, ← eip]; exact c110)
                refine lv_iload_n hx hb dX6_readsChannel_56 rfl (lv_at hl 3 rfl) ?_
                refine lv_iconst (v := 1) hx hb dX6_readsChannel_57 (by decide) ?_
                refine lv_iload_n hx hb dX6_readsChannel_58 rfl (lv_at hl 0 rfl) ?_
                refine lv_ishl hx hb dX6_readsChannel_59 ?_
                refine lv_ior hx hb dX6_readsChannel_60 ?_
                refine lv_istore_n (lv' := [(2, .int (x2_19 ||| (1 <<< ((f_X6_partOf ((f_X6_here Rn68).1)) &&& 31)))), (3, .int (f_X6_partOf ((f_X6_here Rn68).1))), (0, .ref (a 0)), (1, .int x1_19)]) hx hb dX6_readsChannel_61 rfl hl (by decide) rfl (fun ls hl => ?_)
                refine lv_aload_n hx hb dX6_readsChannel_62 rfl (lv_at hl 2 rfl) ?_
                refine lv_iload_n hx hb dX6_readsChannel_63 rfl (lv_at hl 3 rfl) ?_
                refine lv_iload_n hx hb dX6_readsChannel_64 rfl (lv_at hl 1 rfl) ?_
                have hPc : va_P (dC, dI) vwCl (cMd a cI Rn93) H108 := hP.sub [0, 1, 2, 3, 4, 5, 6] rfl
                have hDc : va_D (va_A (cMd a cI R) s.heap.size) (cMd a cI Rn93) := hD.sub [0, 1, 2, 3, 4, 5, 6] (by decide) rfl
                have hFc : ∀ q : Nat, va_A (cMd a cI Rn93) H108.size q → (va_A (cMd a cI R) s.heap.size) q := va_free hD hS hA [0, 1, 2, 3, 4, 5, 6] rfl
                refine va_calli (va_runV (As := [.int x1_19, .int (f_X6_partOf ((f_X6_here Rn68).1))]) (rest := []) ⟨hx, hb, hml, hown, hts⟩ (c_X6_readsPart l dC dI cI cC cS a Rn93 H108.size x1_19 (f_X6_partOf ((f_X6_here Rn68).1)) ev1_19 hpv (here_lt2 hq102 c106) ht94 hI95 hs96) (cwV 2 hts gX6_readsChannel_X6_readsPart rfl rfl rfl (by decide +kernel) ⟨Nat.le_of_ble_eq_true rfl, Nat.le_of_ble_eq_true rfl⟩) (pV (q0 := 0) hK hPc hDc hN rfl rfl) rfl rfl hl.1 rfl (lv_room (Nat.le_of_ble_eq_true rfl)) dX6_readsChannel_65 ⟨Nat.le_of_ble_eq_true rfl, Nat.le_of_ble_eq_true rfl⟩) hS (fun q _ h => hFc q h) hFc (fun r_111 u_111 t_111 H112 locs ht hvm hw hB hz1 hk1 hS => ?_)
                obtain ⟨hw, hens113, hens114, hens115, hens116, hens117, hens118⟩ := hw
                obtain ⟨hP1, hD1⟩ := hB
                rw [ht] at hP1
                have hw1 : r_111 = (f_X6_readsPart Rn93 x1_19 (f_X6_partOf ((f_X6_here Rn68).1))).1 := congrArg Prod.fst hw
                have hw2 : u_111 = (f_X6_readsPart Rn93 x1_19 (f_X6_partOf ((f_X6_here Rn68).1))).2 := congrArg Prod.snd hw
                clear hw
                subst hw1
                subst hw2
                obtain ⟨hP, hD⟩ := va_join (wc := cMd a cI Rn93) (wr := []) (w1 := cMd a cI ((f_X6_readsPart Rn93 x1_19 (f_X6_partOf ((f_X6_here Rn68).1))).2)) hP hD [0, 1, 2, 3, 4, 5, 6] [] rfl rfl (by decide) (by decide) hk1 hFc hP1 hD1
                have hP : va_P (dC, dI) vwCl (cMd a cI ((f_X6_readsPart Rn93 x1_19 (f_X6_partOf ((f_X6_here Rn68).1))).2)) H112 := hP.sub [0, 1, 2, 3, 4, 5, 6] rfl
                have hD : va_D (va_A (cMd a cI R) s.heap.size) (cMd a cI ((f_X6_readsPart Rn93 x1_19 (f_X6_partOf ((f_X6_here Rn68).1))).2)) := hD.sub [0, 1, 2, 3, 4, 5, 6] (by decide) rfl
                obtain ⟨Rn119, eRn119⟩ : ∃ z : SR, z = (f_X6_readsPart Rn93 x1_19 (f_X6_partOf ((f_X6_here Rn68).1))).2 := ⟨_, rfl⟩
                rw [sLet_eq, ← eRn119] at hR
                rw [← eRn119] at hP hD
                have ht120 : WFT Rn119 := by rw [eRn119]; exact hens113
                have hI121 : RA Rn119 := by rw [eRn119]; exact hens114
                have hs122 : RS Rn119 := by rw [eRn119]; exact hens115
                have hx123 : FX R Rn119 := (by rw [eRn119]; exact fx_tr hx97 hens116)
                have hmn124 : MN R Rn119 := (by rw [eRn119]; exact mn_tr hmn98 hens117)
                have hq125 : FX Rn93 Rn119 := by rw [eRn119]; exact hens116
                have hq126 : MN Rn93 Rn119 := by rw [eRn119]; exact hens117
                refine lv_if_ne (tgt := 73) hx hb dX6_readsChannel_68 (by decide) (fun c127 => ?_) (fun c127 => ?_)
                · rw [if_neg c127] at hR
                  refine lv_goto (tgt := 19) hx hb dX6_readsChannel_73 (by decide) ?_
                  exact ih_19 (j_19 ||| 2 ^ ip) x1_19 (x2_19 ||| (1 <<< ((f_X6_partOf ((f_X6_here Rn68).1)) &&& 31))) Rn119 (by rw [ex2_19, eip]; exact htst.1) htst.2.2 (by have := htst.2.1; omega) ev1_19 ht120 hI121 hs122 hx123 hmn124 hR _ _ _ hP hD hS (lv_sub hl [2, 3, 0] rfl)
                · rw [if_pos c127] at hR
                  refine lv_iconst (v := 0) hx hb dX6_readsChannel_71 (by decide) ?_
                  exact W.zret (v := 0) hx hb hr rfl (fun t ht hWw => ⟨⟨0, Rn119, rfl, ⟨hR.symm.trans eR, ht120, hI121, hs122, hx123, hmn124, (Or.inl rfl)⟩, by rw [ht]; exact hP, hD⟩, hS.F ht⟩) hS.2.2 dX6_readsChannel_72
              · rw [if_neg c110] at hR
                refine lv_iconst (v := 0) hx hb dX6_readsChannel_54 (by decide) ?_
                exact W.zret (v := 0) hx hb hr rfl (fun t ht hWw => ⟨⟨0, Rn93, rfl, ⟨hR.symm.trans eR, ht94, hI95, hs96, hx97, hmn98, (Or.inl rfl)⟩, by rw [ht]; exact hP, hD⟩, hS.F ht⟩) hS.2.2 dX6_readsChannel_55
    exact hL_19 33 0 (Rn9 6 4) 0 Rn9 nI_0.symm (by decide) (by decide) hnv17 ht10 hI11 hs12 hx13 hmn14 hR _ _ _ hP hD hS (lv_sub hl [2, 1, 0] rfl)
  · rw [if_pos c16] at hR
    refine lv_iconst (v := 0) hx hb dX6_readsChannel_10 (by decide) ?_
    exact W.zret (v := 0) hx hb hr rfl (fun t ht hWw => ⟨⟨0, Rn9, rfl, ⟨hR.symm.trans eR, ht10, hI11, hs12, hx13, hmn14, (Or.inl rfl)⟩, by rw [ht]; exact hP, hD⟩, hS.F ht⟩) hS.2.2 dX6_readsChannel_11
abbrev rm_X6_readsSend : Room := { frames := 2, cells := 0, slots := 0, locals := 48 }
def f_X6_readsSend (R : SR) (p1 : Int32) : Int32 × SR := sLet ((f_X6_reads R 0 11).2) (fun Rn9 : SR => (if ((f_X6_reads R 0 11).1) = 0 then (0, Rn9) else sLet ((f_X6_takes Rn9 61).2) (fun Rn26 : SR => (if ((f_X6_takes Rn9 61).1) = 0 then (0, Rn26) else sLet ((f_X6_reads Rn26 0 100).2) (fun Rn44 : SR => (if ((f_X6_reads Rn26 0 100).1) = 0 then (0, Rn44) else sLet (sU Rn44 0 ((88 + (12 * p1)) + (Rn9 6 4)).toNatClampNeg (Rn44 6 4)) (fun Rn55 : SR => (1, Rn55))))))))
set_option maxHeartbeats 4000000 in
set_option maxRecDepth 100000 in
theorem c_X6_readsSend (l : Launch) (dC : Nat → ClassId) (dI : Nat → Nat → Nat) (cI cC cS : ClassId) (a : Nat → Nat) (R : SR) (sz : Nat) (p1 : Int32) (h1 : vp_in p1 4) (ht : WFT R) (hI : RA R) (hs : RS R) : Met l yX6_readsSend wsX6_readsSend rm_X6_readsSend (PcG (dC, dI) (tyL cI cC cS) (cMd a cI R) sz [.ref (a 0), .int p1]) (va_Qi (fun (r : Int32) (u : SR) => (r, u) = f_X6_readsSend R p1 ∧ (WFT u) ∧ (RA u) ∧ (RS u) ∧ (FX R u) ∧ (MN R u) ∧ (r = 0 ∨ r = 1)) (fun u U => va_P (dC, dI) vwCl (cMd a cI u) U.heap ∧ va_D (va_A (cMd a cI R) sz) (cMd a cI u)) (va_A (cMd a cI R) sz)) 0 0 (va_A (cMd a cI R) sz) := by
  refine Met.ofW (cc := cX6_readsSend) (maxL := 3) (ret := (some .boolean)) (by decide) rfl ?_
  intro p e s m args below meth c s₁ B hml hv
  obtain ⟨rfl, hsz, hP, hK, hD0, hN⟩ := hv
  have hx := B.exec
  have hb := B.bytes
  have hr := B.returns
  have hts := atoms_spec (ws := wsX6_readsSend) B.pre
  have hown : s.vm.findClass RX6 = some m.cls := findClass_of_methodNamed B.named
  have hlocks := B.notSynchronized
  subst hsz
  have hD := hD0.self (sz := s.heap.size)
  have hA : ∀ q : Nat, s.heap.size ≤ q → (va_A (cMd a cI R) s.heap.size) q := fun q h => Or.inr h
  have hS : va_S (va_A (cMd a cI R) s.heap.size) s.heap s.heap [] := va_S.rf
  have hin6 : ∀ w ∈ wsX60, w ∈ wsX6_readsSend := fun _ h => List.mem_cons_of_mem _ (List.mem_append_right _ h)
  have hx_0 : FX R R := fx_rf
  have hmn_0 : MN R R := mn_rf
  have hl := lv_entry [.ref (a 0), .int p1] (n := 3) (Nat.le_of_ble_eq_true rfl)
  rw [lg_entry_eq]
  generalize (lg_sl [.ref (a 0), .int p1] ++ List.replicate (3 - (lg_sl [.ref (a 0), .int p1]).length) Slot.unset).toArray = ls at hl ⊢
  have hl : lv_has ls 3 [(0, .ref (a 0)), (1, .int p1)] := hl
  obtain ⟨R0, eR⟩ : ∃ z, z = f_X6_readsSend R p1 := ⟨_, rfl⟩
  have hR := eR
  rw [f_X6_readsSend] at hR
  refine lv_aload_n hx hb dX6_readsSend_0 rfl (lv_at hl 0 rfl) ?_
  refine lv_iconst (v := 0) hx hb dX6_readsSend_1 (by decide) ?_
  refine lv_bipush (v := 11) hx hb dX6_readsSend_2 (by decide) ?_
  have hPc : va_P (dC, dI) vwCl (cMd a cI R) s.heap := hP.sub [0, 1, 2, 3, 4, 5, 6] rfl
  have hDc : va_D (va_A (cMd a cI R) s.heap.size) (cMd a cI R) := hD.sub [0, 1, 2, 3, 4, 5, 6] (by decide) rfl
  have hFc : ∀ q : Nat, va_A (cMd a cI R) s.heap.size q → (va_A (cMd a cI R) s.heap.size) q := va_free hD hS hA [0, 1, 2, 3, 4, 5, 6] rfl
  refine va_calli (va_runV (As := [.int 0, .int 11]) (rest := []) ⟨hx, hb, hml, hown, hts⟩ (c_X6_reads l dC dI cI cC cS a R s.heap.size 0 11 ht) (cwV 2 hts gX6_readsSend_X6_reads rfl rfl rfl (by decide +kernel) ⟨Nat.le_of_ble_eq_true rfl, Nat.le_of_ble_eq_true rfl⟩) (pV (q0 := 0) hK hPc hDc hN rfl rfl) rfl rfl hl.1 rfl (lv_room (Nat.le_of_ble_eq_true rfl)) dX6_readsSend_4 ⟨Nat.le_of_ble_eq_true rfl, Nat.le_of_ble_eq_true rfl⟩) hS (fun q _ h => hFc q h) hFc (fun r_1 u_1 t_1 H2 locs ht hvm hw hB hz1 hk1 hS => ?_)
  obtain ⟨hw, hens3, hens4, hens5, hens6, hens7, hens8⟩ := hw
  obtain ⟨hP1, hD1⟩ := hB
  rw [ht] at hP1
  have hw1 : r_1 = (f_X6_reads R 0 11).1 := congrArg Prod.fst hw
  have hw2 : u_1 = (f_X6_reads R 0 11).2 := congrArg Prod.snd hw
  clear hw
  subst hw1
  subst hw2
  obtain ⟨hP, hD⟩ := va_join (wc := cMd a cI R) (wr := []) (w1 := cMd a cI ((f_X6_reads R 0 11).2)) hP hD [0, 1, 2, 3, 4, 5, 6] [] rfl rfl (by decide) (by decide) hk1 hFc hP1 hD1
  have hP : va_P (dC, dI) vwCl (cMd a cI ((f_X6_reads R 0 11).2)) H2 := hP.sub [0, 1, 2, 3, 4, 5, 6] rfl
  have hD : va_D (va_A (cMd a cI R) s.heap.size) (cMd a cI ((f_X6_reads R 0 11).2)) := hD.sub [0, 1, 2, 3, 4, 5, 6] (by decide) rfl
  obtain ⟨Rn9, eRn9⟩ : ∃ z : SR, z = (f_X6_reads R 0 11).2 := ⟨_, rfl⟩
  rw [sLet_eq, ← eRn9] at hR
  rw [← eRn9] at hP hD
  have ht10 : WFT Rn9 := by rw [eRn9]; exact hens3
  have hI11 : RA Rn9 := (by rw [eRn9]; exact ra_eq hI hens4)
  have hs12 : RS Rn9 := (by rw [eRn9]; exact rs_eq0 hs hens4)
  have hx13 : FX R Rn9 := by rw [eRn9]; exact hens5
  have hmn14 : MN R Rn9 := by rw [eRn9]; exact hens6
  have hq15 : ((f_X6_reads R 0 11).1) = 0 ∨ (¬ Rn9 6 4 < 0 ∧ ¬ 11 < Rn9 6 4) := by rw [eRn9]; exact hens7
  refine lv_if_ne (tgt := 12) hx hb dX6_readsSend_7 (by decide) (fun c16 => ?_) (fun c16 => ?_)
  · rw [if_neg c16] at hR
    have hnv17 : vp_in (Rn9 6 4) 12 := (num_vp (n := 11) hq15 c16)
    refine lv_aload_n hx hb dX6_readsSend_12 rfl (lv_at hl 0 rfl) ?_
    refine va_get (D := (dC, dI)) (ci := 6) (v := .int (Rn9 6 4)) (C := RX6) (T := TX6) (N := 15) hx hb hts hin6 hown hK hP 0 rfl rfl 8 (by decide) (hts (.fieldLink RX6 132 "FeedDeskModel" "number" "I") (List.mem_of_getElem? (i := 1) rfl)) (fun _ h9 => h9) rfl dX6_readsSend_13 ?_
    refine lv_istore_n (lv' := [(2, .int (Rn9 6 4)), (0, .ref (a 0)), (1, .int p1)]) hx hb dX6_readsSend_16 rfl hl (by decide) rfl (fun ls hl => ?_)
    refine lv_aload_n hx hb dX6_readsSend_17 rfl (lv_at hl 1 rfl) ?_
    refine lv_bipush (v := 61) hx hb dX6_readsSend_18 (by decide) ?_
    have hPc : va_P (dC, dI) vwCl (cMd a cI Rn9) H2 := hP.sub [0, 1, 2, 3, 4, 5, 6] rfl
    have hDc : va_D (va_A (cMd a cI R) s.heap.size) (cMd a cI Rn9) := hD.sub [0, 1, 2, 3, 4, 5, 6] (by decide) rfl
    have hFc : ∀ q : Nat, va_A (cMd a cI Rn9) H2.size q → (va_A (cMd a cI R) s.heap.size) q := va_free hD hS hA [0, 1, 2, 3, 4, 5, 6] rfl
    refine va_calli (va_runV (As := [.int 61]) (rest := []) ⟨hx, hb, hml, hown, hts⟩ (c_X6_takes l dC dI cI cC cS a Rn9 H2.size 61 (by decide) ht10) (cwV 1 hts gX6_readsSend_X6_takes rfl rfl rfl (by decide +kernel) ⟨Nat.le_of_ble_eq_true rfl, Nat.le_of_ble_eq_true rfl⟩) (pV (q0 := 0) hK hPc hDc hN rfl rfl) rfl rfl hl.1 rfl (lv_room (Nat.le_of_ble_eq_true rfl)) dX6_readsSend_20 ⟨Nat.le_of_ble_eq_true rfl, Nat.le_of_ble_eq_true rfl⟩) hS (fun q _ h => hFc q h) hFc (fun r_18 u_18 t_18 H19 locs ht hvm hw hB hz1 hk1 hS => ?_)
    obtain ⟨hw, hens20, hens21, hens22, hens23, hens24, hens25⟩ := hw
    obtain ⟨hP1, hD1⟩ := hB
    rw [ht] at hP1
    have hw1 : r_18 = (f_X6_takes Rn9 61).1 := congrArg Prod.fst hw
    have hw2 : u_18 = (f_X6_takes Rn9 61).2 := congrArg Prod.snd hw
    clear hw
    subst hw1
    subst hw2
    obtain ⟨hP, hD⟩ := va_join (wc := cMd a cI Rn9) (wr := []) (w1 := cMd a cI ((f_X6_takes Rn9 61).2)) hP hD [0, 1, 2, 3, 4, 5, 6] [] rfl rfl (by decide) (by decide) hk1 hFc hP1 hD1
    have hP : va_P (dC, dI) vwCl (cMd a cI ((f_X6_takes Rn9 61).2)) H19 := hP.sub [0, 1, 2, 3, 4, 5, 6] rfl
    have hD : va_D (va_A (cMd a cI R) s.heap.size) (cMd a cI ((f_X6_takes Rn9 61).2)) := hD.sub [0, 1, 2, 3, 4, 5, 6] (by decide) rfl
    obtain ⟨Rn26, eRn26⟩ : ∃ z : SR, z = (f_X6_takes Rn9 61).2 := ⟨_, rfl⟩
    rw [sLet_eq, ← eRn26] at hR
    rw [← eRn26] at hP hD
    have ht27 : WFT Rn26 := by rw [eRn26]; exact hens20
    have hI28 : RA Rn26 := (by rw [eRn26]; exact ra_eq hI11 hens21)
    have hs29 : RS Rn26 := (by rw [eRn26]; exact rs_eq0 hs12 hens21)
    have hx30 : FX R Rn26 := (by rw [eRn26]; exact fx_tr hx13 hens22)
    have hmn31 : MN R Rn26 := (by rw [eRn26]; exact mn_tr hmn14 hens23)
    have hq32 : FX Rn9 Rn26 := by rw [eRn26]; exact hens22
    have hq33 : MN Rn9 Rn26 := by rw [eRn26]; exact hens23
    have hq34 : ((f_X6_takes Rn9 61).1) = 0 ∨ MS Rn9 Rn26 := by rw [eRn26]; exact hens24
    refine lv_if_eq (tgt := 36) hx hb dX6_readsSend_23 (by decide) (fun c35 => ?_) (fun c35 => ?_)
    · rw [if_pos c35] at hR
      refine lv_iconst (v := 0) hx hb dX6_readsSend_36 (by decide) ?_
      exact W.zret (v := 0) hx hb hr rfl (fun t ht hWw => ⟨⟨0, Rn26, rfl, ⟨hR.symm.trans eR, ht27, hI28, hs29, hx30, hmn31, (Or.inl rfl)⟩, by rw [ht]; exact hP, hD⟩, hS.F ht⟩) hS.2.2 dX6_readsSend_37
    · rw [if_neg c35] at hR
      refine lv_aload_n hx hb dX6_readsSend_26 rfl (lv_at hl 1 rfl) ?_
      refine lv_iconst (v := 0) hx hb dX6_readsSend_27 (by decide) ?_
      refine lv_bipush (v := 100) hx hb dX6_readsSend_28 (by decide) ?_
      have hPc : va_P (dC, dI) vwCl (cMd a cI Rn26) H19 := hP.sub [0, 1, 2, 3, 4, 5, 6] rfl
      have hDc : va_D (va_A (cMd a cI R) s.heap.size) (cMd a cI Rn26) := hD.sub [0, 1, 2, 3, 4, 5, 6] (by decide) rfl
      have hFc : ∀ q : Nat, va_A (cMd a cI Rn26) H19.size q → (va_A (cMd a cI R) s.heap.size) q := va_free hD hS hA [0, 1, 2, 3, 4, 5, 6] rfl
      refine va_calli (va_runV (As := [.int 0, .int 100]) (rest := []) ⟨hx, hb, hml, hown, hts⟩ (c_X6_reads l dC dI cI cC cS a Rn26 H19.size 0 100 ht27) (cwV 2 hts gX6_readsSend_X6_reads rfl rfl rfl (by decide +kernel) ⟨Nat.le_of_ble_eq_true rfl, Nat.le_of_ble_eq_true rfl⟩) (pV (q0 := 0) hK hPc hDc hN rfl rfl) rfl rfl hl.1 rfl (lv_room (Nat.le_of_ble_eq_true rfl)) dX6_readsSend_30 ⟨Nat.le_of_ble_eq_true rfl, Nat.le_of_ble_eq_true rfl⟩) hS (fun q _ h => hFc q h) hFc (fun r_36 u_36 t_36 H37 locs ht hvm hw hB hz1 hk1 hS => ?_)
      obtain ⟨hw, hens38, hens39, hens40, hens41, hens42, hens43⟩ := hw
      obtain ⟨hP1, hD1⟩ := hB
      rw [ht] at hP1
      have hw1 : r_36 = (f_X6_reads Rn26 0 100).1 := congrArg Prod.fst hw
      have hw2 : u_36 = (f_X6_reads Rn26 0 100).2 := congrArg Prod.snd hw
      clear hw
      subst hw1
      subst hw2
      obtain ⟨hP, hD⟩ := va_join (wc := cMd a cI Rn26) (wr := []) (w1 := cMd a cI ((f_X6_reads Rn26 0 100).2)) hP hD [0, 1, 2, 3, 4, 5, 6] [] rfl rfl (by decide) (by decide) hk1 hFc hP1 hD1
      have hP : va_P (dC, dI) vwCl (cMd a cI ((f_X6_reads Rn26 0 100).2)) H37 := hP.sub [0, 1, 2, 3, 4, 5, 6] rfl
      have hD : va_D (va_A (cMd a cI R) s.heap.size) (cMd a cI ((f_X6_reads Rn26 0 100).2)) := hD.sub [0, 1, 2, 3, 4, 5, 6] (by decide) rfl
      obtain ⟨Rn44, eRn44⟩ : ∃ z : SR, z = (f_X6_reads Rn26 0 100).2 := ⟨_, rfl⟩
      rw [sLet_eq, ← eRn44] at hR
      rw [← eRn44] at hP hD
      have ht45 : WFT Rn44 := by rw [eRn44]; exact hens38
      have hI46 : RA Rn44 := (by rw [eRn44]; exact ra_eq hI28 hens39)
      have hs47 : RS Rn44 := (by rw [eRn44]; exact rs_eq0 hs29 hens39)
      have hx48 : FX R Rn44 := (by rw [eRn44]; exact fx_tr hx30 hens40)
      have hmn49 : MN R Rn44 := (by rw [eRn44]; exact mn_tr hmn31 hens41)
      have hq50 : FX Rn26 Rn44 := by rw [eRn44]; exact hens40
      have hq51 : MN Rn26 Rn44 := by rw [eRn44]; exact hens41
      have hq52 : ((f_X6_reads Rn26 0 100).1) = 0 ∨ (¬ Rn44 6 4 < 0 ∧ ¬ 100 < Rn44 6 4) := by rw [eRn44]; exact hens42
      refine lv_if_ne (tgt := 38) hx hb dX6_readsSend_33 (by decide) (fun c53 => ?_) (fun c53 => ?_)
      · rw [if_neg c53] at hR
        refine lv_aload_n hx hb dX6_readsSend_38 rfl (lv_at hl 1 rfl) ?_
        refine va_get (D := (dC, dI)) (ci := 6) (v := .ref (a 1)) (C := RX6) (T := TX6) (N := 15) hx hb hts hin6 hown hK hP 0 rfl rfl 1 (by decide) (hts (.fieldLink RX6 7 "FeedDeskModel" "s" "[I") (List.mem_of_getElem? (i := 2) rfl)) (fun _ h9 => h9) rfl dX6_readsSend_39 ?_
        refine lv_bipush (v := 88) hx hb dX6_readsSend_42 (by decide) ?_
        refine lv_bipush (v := 12) hx hb dX6_readsSend_44 (by decide) ?_
        refine lv_iload_n hx hb dX6_readsSend_46 rfl (lv_at hl 2 rfl) ?_
        refine lv_imul hx hb dX6_readsSend_47 ?_
        refine lv_iadd hx hb dX6_readsSend_48 ?_
        refine lv_iload_n hx hb dX6_readsSend_49 rfl (lv_at hl 0 rfl) ?_
        refine lv_iadd hx hb dX6_readsSend_50 ?_
        refine lv_aload_n hx hb dX6_readsSend_51 rfl (lv_at hl 1 rfl) ?_
        refine va_get (D := (dC, dI)) (ci := 6) (v := .int (Rn44 6 4)) (C := RX6) (T := TX6) (N := 15) hx hb hts hin6 hown hK hP 0 rfl rfl 8 (by decide) (hts (.fieldLink RX6 132 "FeedDeskModel" "number" "I") (List.mem_of_getElem? (i := 1) rfl)) (fun _ h9 => h9) rfl dX6_readsSend_52 ?_
        refine va_iast (f := Rn44 0) hx hb hK hP hD hS 1 0 rfl rfl (snd_in h1 hnv17) dX6_readsSend_55 (fun H54 locs hP hD hS => ?_)
        have hP : va_P (dC, dI) vwCl (cMd a cI (sU Rn44 0 ((88 + (12 * p1)) + (Rn9 6 4)).toNatClampNeg (Rn44 6 4))) H54 := hP
        have hD : va_D (va_A (cMd a cI R) s.heap.size) (cMd a cI (sU Rn44 0 ((88 + (12 * p1)) + (Rn9 6 4)).toNatClampNeg (Rn44 6 4))) := hD
        obtain ⟨Rn55, eRn55⟩ : ∃ z : SR, z = sU Rn44 0 ((88 + (12 * p1)) + (Rn9 6 4)).toNatClampNeg (Rn44 6 4) := ⟨_, rfl⟩
        rw [sLet_eq, ← eRn55] at hR
        rw [← eRn55] at hP hD
        have ht56 : WFT Rn55 := (by rw [eRn55]; exact ht45)
        have hI57 : RA Rn55 := (by rw [eRn55]; exact ra_s hI46 (snd_okR h1 hnv17))
        have hs58 : RS Rn55 := (by rw [eRn55]; exact rs_s hs47 (snd_okT h1 hnv17))
        have hx59 : FX R Rn55 := (by rw [eRn55]; exact hx48)
        have hmn60 : MN R Rn55 := (by rw [eRn55]; exact hmn49)
        refine lv_iconst (v := 1) hx hb dX6_readsSend_56 (by decide) ?_
        exact W.zret (v := 1) hx hb hr rfl (fun t ht hWw => ⟨⟨1, Rn55, rfl, ⟨hR.symm.trans eR, ht56, hI57, hs58, hx59, hmn60, (Or.inr rfl)⟩, by rw [ht]; exact hP, hD⟩, hS.F ht⟩) hS.2.2 dX6_readsSend_57
      · rw [if_pos c53] at hR
        refine lv_iconst (v := 0) hx hb dX6_readsSend_36 (by decide) ?_
        exact W.zret (v := 0) hx hb hr rfl (fun t ht hWw => ⟨⟨0, Rn44, rfl, ⟨hR.symm.trans eR, ht45, hI46, hs47, hx48, hmn49, (Or.inl rfl)⟩, by rw [ht]; exact hP, hD⟩, hS.F ht⟩) hS.2.2 dX6_readsSend_37
  · rw [if_pos c16] at hR
    refine lv_iconst (v := 0) hx hb dX6_readsSend_10 (by decide) ?_
    exact W.zret (v := 0) hx hb hr rfl (fun t ht hWw => ⟨⟨0, Rn9, rfl, ⟨hR.symm.trans eR, ht10, hI11, hs12, hx13, hmn14, (Or.inl rfl)⟩, by rw [ht]; exact hP, hD⟩, hS.F ht⟩) hS.2.2 dX6_readsSend_11
abbrev rm_X6_readsFeed : Room := { frames := 3, cells := 0, slots := 0, locals := 70 }
def f_X6_readsFeed_p40   : Nat → Int32 → Int32 → SR → (Int32 × SR)
  | 0, _, _, R_40 => (0, R_40)
  | n_40 + 1, x1_40, x2_40, R_40 => (if x2_40 = 0 then sLet ((f_X6_takes R_40 59).2) (fun Rn63 : SR => ((f_X6_takes R_40 59).1, Rn63)) else sLet ((f_X6_readsSend R_40 x1_40).2) (fun Rn80 : SR => (if ((f_X6_readsSend R_40 x1_40).1) = 0 then (0, Rn80) else sLet ((f_X6_takes Rn80 44).2) (fun Rn97 : SR => (f_X6_readsFeed_p40 n_40) x1_40 ((f_X6_takes Rn80 44).1) Rn97))))
def f_X6_readsFeed (R : SR)  : Int32 × SR := sLet ((f_X6_reads R 0 3).2) (fun Rn9 : SR => (if ((f_X6_reads R 0 3).1) = 0 then (0, Rn9) else sLet ((f_X6_takes Rn9 58).2) (fun Rn26 : SR => (if ((f_X6_takes Rn9 58).1) = 0 then (0, Rn26) else sLet ((f_X6_takes Rn26 59).2) (fun Rn44 : SR => (if ((f_X6_takes Rn26 59).1) = 0 then f_X6_readsFeed_p40 144 (Rn9 6 4) 1 Rn44 else (1, Rn44)))))))
set_option maxHeartbeats 4000000 in
set_option maxRecDepth 100000 in
theorem c_X6_readsFeed (l : Launch) (dC : Nat → ClassId) (dI : Nat → Nat → Nat) (cI cC cS : ClassId) (a : Nat → Nat) (R : SR) (sz : Nat)  (ht : WFT R) (hI : RA R) (hs : RS R) : Met l yX6_readsFeed wsX6_readsFeed rm_X6_readsFeed (PcG (dC, dI) (tyL cI cC cS) (cMd a cI R) sz [.ref (a 0)]) (va_Qi (fun (r : Int32) (u : SR) => (r, u) = f_X6_readsFeed R ∧ (WFT u) ∧ (RA u) ∧ (RS u) ∧ (FX R u) ∧ (MN R u) ∧ (r = 0 ∨ r = 1)) (fun u U => va_P (dC, dI) vwCl (cMd a cI u) U.heap ∧ va_D (va_A (cMd a cI R) sz) (cMd a cI u)) (va_A (cMd a cI R) sz)) 0 0 (va_A (cMd a cI R) sz) := by
  refine Met.ofW (cc := cX6_readsFeed) (maxL := 3) (ret := (some .boolean)) (by decide) rfl ?_
  intro p e s m args below meth c s₁ B hml hv
  obtain ⟨rfl, hsz, hP, hK, hD0, hN⟩ := hv
  have hx := B.exec
  have hb := B.bytes
  have hr := B.returns
  have hts := atoms_spec (ws := wsX6_readsFeed) B.pre
  have hown : s.vm.findClass RX6 = some m.cls := findClass_of_methodNamed B.named
  have hlocks := B.notSynchronized
  subst hsz
  have hD := hD0.self (sz := s.heap.size)
  have hA : ∀ q : Nat, s.heap.size ≤ q → (va_A (cMd a cI R) s.heap.size) q := fun q h => Or.inr h
  have hS : va_S (va_A (cMd a cI R) s.heap.size) s.heap s.heap [] := va_S.rf
  have hin6 : ∀ w ∈ wsX60, w ∈ wsX6_readsFeed := fun _ h => List.mem_cons_of_mem _ (List.mem_append_right _ h)
  have hx_0 : FX R R := fx_rf
  have hmn_0 : MN R R := mn_rf
  have hl := lv_entry [.ref (a 0)] (n := 3) (Nat.le_of_ble_eq_true rfl)
  rw [lg_entry_eq]
  generalize (lg_sl [.ref (a 0)] ++ List.replicate (3 - (lg_sl [.ref (a 0)]).length) Slot.unset).toArray = ls at hl ⊢
  have hl : lv_has ls 3 [(0, .ref (a 0))] := hl
  obtain ⟨R0, eR⟩ : ∃ z, z = f_X6_readsFeed R := ⟨_, rfl⟩
  have hR := eR
  rw [f_X6_readsFeed] at hR
  refine lv_aload_n hx hb dX6_readsFeed_0 rfl (lv_at hl 0 rfl) ?_
  refine lv_iconst (v := 0) hx hb dX6_readsFeed_1 (by decide) ?_
  refine lv_iconst (v := 3) hx hb dX6_readsFeed_2 (by decide) ?_
  have hPc : va_P (dC, dI) vwCl (cMd a cI R) s.heap := hP.sub [0, 1, 2, 3, 4, 5, 6] rfl
  have hDc : va_D (va_A (cMd a cI R) s.heap.size) (cMd a cI R) := hD.sub [0, 1, 2, 3, 4, 5, 6] (by decide) rfl
  have hFc : ∀ q : Nat, va_A (cMd a cI R) s.heap.size q → (va_A (cMd a cI R) s.heap.size) q := va_free hD hS hA [0, 1, 2, 3, 4, 5, 6] rfl
  refine va_calli (va_runV (As := [.int 0, .int 3]) (rest := []) ⟨hx, hb, hml, hown, hts⟩ (c_X6_reads l dC dI cI cC cS a R s.heap.size 0 3 ht) (cwV 2 hts gX6_readsFeed_X6_reads rfl rfl rfl (by decide +kernel) ⟨Nat.le_of_ble_eq_true rfl, Nat.le_of_ble_eq_true rfl⟩) (pV (q0 := 0) hK hPc hDc hN rfl rfl) rfl rfl hl.1 rfl (lv_room (Nat.le_of_ble_eq_true rfl)) dX6_readsFeed_3 ⟨Nat.le_of_ble_eq_true rfl, Nat.le_of_ble_eq_true rfl⟩) hS (fun q _ h => hFc q h) hFc (fun r_1 u_1 t_1 H2 locs ht hvm hw hB hz1 hk1 hS => ?_)
  obtain ⟨hw, hens3, hens4, hens5, hens6, hens7, hens8⟩ := hw
  obtain ⟨hP1, hD1⟩ := hB
  rw [ht] at hP1
  have hw1 : r_1 = (f_X6_reads R 0 3).1 := congrArg Prod.fst hw
  have hw2 : u_1 = (f_X6_reads R 0 3).2 := congrArg Prod.snd hw
  clear hw
  subst hw1
  subst hw2
  obtain ⟨hP, hD⟩ := va_join (wc := cMd a cI R) (wr := []) (w1 := cMd a cI ((f_X6_reads R 0 3).2)) hP hD [0, 1, 2, 3, 4, 5, 6] [] rfl rfl (by decide) (by decide) hk1 hFc hP1 hD1
  have hP : va_P (dC, dI) vwCl (cMd a cI ((f_X6_reads R 0 3).2)) H2 := hP.sub [0, 1, 2, 3, 4, 5, 6] rfl
  have hD : va_D (va_A (cMd a cI R) s.heap.size) (cMd a cI ((f_X6_reads R 0 3).2)) := hD.sub [0, 1, 2, 3, 4, 5, 6] (by decide) rfl
  obtain ⟨Rn9, eRn9⟩ : ∃ z : SR, z = (f_X6_reads R 0 3).2 := ⟨_, rfl⟩
  rw [sLet_eq, ← eRn9] at hR
  rw [← eRn9] at hP hD
  have ht10 : WFT Rn9 := by rw [eRn9]; exact hens3
  have hI11 : RA Rn9 := (by rw [eRn9]; exact ra_eq hI hens4)
  have hs12 : RS Rn9 := (by rw [eRn9]; exact rs_eq0 hs hens4)
  have hx13 : FX R Rn9 := by rw [eRn9]; exact hens5
  have hmn14 : MN R Rn9 := by rw [eRn9]; exact hens6
  have hq15 : ((f_X6_reads R 0 3).1) = 0 ∨ (¬ Rn9 6 4 < 0 ∧ ¬ 3 < Rn9 6 4) := by rw [eRn9]; exact hens7
  refine lv_if_ne (tgt := 11) hx hb dX6_readsFeed_6 (by decide) (fun c16 => ?_) (fun c16 => ?_)
  · rw [if_neg c16] at hR
    have hnv17 : vp_in (Rn9 6 4) 4 := (num_vp (n := 3) hq15 c16)
    refine lv_aload_n hx hb dX6_readsFeed_11 rfl (lv_at hl 0 rfl) ?_
    refine va_get (D := (dC, dI)) (ci := 6) (v := .int (Rn9 6 4)) (C := RX6) (T := TX6) (N := 15) hx hb hts hin6 hown hK hP 0 rfl rfl 8 (by decide) (hts (.fieldLink RX6 132 "FeedDeskModel" "number" "I") (List.mem_of_getElem? (i := 1) rfl)) (fun _ h9 => h9) rfl dX6_readsFeed_12 ?_
    refine lv_istore_n (lv' := [(1, .int (Rn9 6 4)), (0, .ref (a 0))]) hx hb dX6_readsFeed_15 rfl hl (by decide) rfl (fun ls hl => ?_)
    refine lv_aload_n hx hb dX6_readsFeed_16 rfl (lv_at hl 1 rfl) ?_
    refine lv_bipush (v := 58) hx hb dX6_readsFeed_17 (by decide) ?_
    have hPc : va_P (dC, dI) vwCl (cMd a cI Rn9) H2 := hP.sub [0, 1, 2, 3, 4, 5, 6] rfl
    have hDc : va_D (va_A (cMd a cI R) s.heap.size) (cMd a cI Rn9) := hD.sub [0, 1, 2, 3, 4, 5, 6] (by decide) rfl
    have hFc : ∀ q : Nat, va_A (cMd a cI Rn9) H2.size q → (va_A (cMd a cI R) s.heap.size) q := va_free hD hS hA [0, 1, 2, 3, 4, 5, 6] rfl
    refine va_calli (va_runV (As := [.int 58]) (rest := []) ⟨hx, hb, hml, hown, hts⟩ (c_X6_takes l dC dI cI cC cS a Rn9 H2.size 58 (by decide) ht10) (cwV 1 hts gX6_readsFeed_X6_takes rfl rfl rfl (by decide +kernel) ⟨Nat.le_of_ble_eq_true rfl, Nat.le_of_ble_eq_true rfl⟩) (pV (q0 := 0) hK hPc hDc hN rfl rfl) rfl rfl hl.1 rfl (lv_room (Nat.le_of_ble_eq_true rfl)) dX6_readsFeed_19 ⟨Nat.le_of_ble_eq_true rfl, Nat.le_of_ble_eq_true rfl⟩) hS (fun q _ h => hFc q h) hFc (fun r_18 u_18 t_18 H19 locs ht hvm hw hB hz1 hk1 hS => ?_)
    obtain ⟨hw, hens20, hens21, hens22, hens23, hens24, hens25⟩ := hw
    obtain ⟨hP1, hD1⟩ := hB
    rw [ht] at hP1
    have hw1 : r_18 = (f_X6_takes Rn9 58).1 := congrArg Prod.fst hw
    have hw2 : u_18 = (f_X6_takes Rn9 58).2 := congrArg Prod.snd hw
    clear hw
    subst hw1
    subst hw2
    obtain ⟨hP, hD⟩ := va_join (wc := cMd a cI Rn9) (wr := []) (w1 := cMd a cI ((f_X6_takes Rn9 58).2)) hP hD [0, 1, 2, 3, 4, 5, 6] [] rfl rfl (by decide) (by decide) hk1 hFc hP1 hD1
    have hP : va_P (dC, dI) vwCl (cMd a cI ((f_X6_takes Rn9 58).2)) H19 := hP.sub [0, 1, 2, 3, 4, 5, 6] rfl
    have hD : va_D (va_A (cMd a cI R) s.heap.size) (cMd a cI ((f_X6_takes Rn9 58).2)) := hD.sub [0, 1, 2, 3, 4, 5, 6] (by decide) rfl
    obtain ⟨Rn26, eRn26⟩ : ∃ z : SR, z = (f_X6_takes Rn9 58).2 := ⟨_, rfl⟩
    rw [sLet_eq, ← eRn26] at hR
    rw [← eRn26] at hP hD
    have ht27 : WFT Rn26 := by rw [eRn26]; exact hens20
    have hI28 : RA Rn26 := (by rw [eRn26]; exact ra_eq hI11 hens21)
    have hs29 : RS Rn26 := (by rw [eRn26]; exact rs_eq0 hs12 hens21)
    have hx30 : FX R Rn26 := (by rw [eRn26]; exact fx_tr hx13 hens22)
    have hmn31 : MN R Rn26 := (by rw [eRn26]; exact mn_tr hmn14 hens23)
    have hq32 : FX Rn9 Rn26 := by rw [eRn26]; exact hens22
    have hq33 : MN Rn9 Rn26 := by rw [eRn26]; exact hens23
    have hq34 : ((f_X6_takes Rn9 58).1) = 0 ∨ MS Rn9 Rn26 := by rw [eRn26]; exact hens24
    refine lv_if_ne (tgt := 27) hx hb dX6_readsFeed_22 (by decide) (fun c35 => ?_) (fun c35 => ?_)
    · rw [if_neg c35] at hR
      refine lv_aload_n hx hb dX6_readsFeed_27 rfl (lv_at hl 1 rfl) ?_
      refine lv_bipush (v := 59) hx hb dX6_readsFeed_28 (by decide) ?_
      have hPc : va_P (dC, dI) vwCl (cMd a cI Rn26) H19 := hP.sub [0, 1, 2, 3, 4, 5, 6] rfl
      have hDc : va_D (va_A (cMd a cI R) s.heap.size) (cMd a cI Rn26) := hD.sub [0, 1, 2, 3, 4, 5, 6] (by decide) rfl
      have hFc : ∀ q : Nat, va_A (cMd a cI Rn26) H19.size q → (va_A (cMd a cI R) s.heap.size) q := va_free hD hS hA [0, 1, 2, 3, 4, 5, 6] rfl
      refine va_calli (va_runV (As := [.int 59]) (rest := []) ⟨hx, hb, hml, hown, hts⟩ (c_X6_takes l dC dI cI cC cS a Rn26 H19.size 59 (by decide) ht27) (cwV 1 hts gX6_readsFeed_X6_takes rfl rfl rfl (by decide +kernel) ⟨Nat.le_of_ble_eq_true rfl, Nat.le_of_ble_eq_true rfl⟩) (pV (q0 := 0) hK hPc hDc hN rfl rfl) rfl rfl hl.1 rfl (lv_room (Nat.le_of_ble_eq_true rfl)) dX6_readsFeed_30 ⟨Nat.le_of_ble_eq_true rfl, Nat.le_of_ble_eq_true rfl⟩) hS (fun q _ h => hFc q h) hFc (fun r_36 u_36 t_36 H37 locs ht hvm hw hB hz1 hk1 hS => ?_)
      obtain ⟨hw, hens38, hens39, hens40, hens41, hens42, hens43⟩ := hw
      obtain ⟨hP1, hD1⟩ := hB
      rw [ht] at hP1
      have hw1 : r_36 = (f_X6_takes Rn26 59).1 := congrArg Prod.fst hw
      have hw2 : u_36 = (f_X6_takes Rn26 59).2 := congrArg Prod.snd hw
      clear hw
      subst hw1
      subst hw2
      obtain ⟨hP, hD⟩ := va_join (wc := cMd a cI Rn26) (wr := []) (w1 := cMd a cI ((f_X6_takes Rn26 59).2)) hP hD [0, 1, 2, 3, 4, 5, 6] [] rfl rfl (by decide) (by decide) hk1 hFc hP1 hD1
      have hP : va_P (dC, dI) vwCl (cMd a cI ((f_X6_takes Rn26 59).2)) H37 := hP.sub [0, 1, 2, 3, 4, 5, 6] rfl
      have hD : va_D (va_A (cMd a cI R) s.heap.size) (cMd a cI ((f_X6_takes Rn26 59).2)) := hD.sub [0, 1, 2, 3, 4, 5, 6] (by decide) rfl
      obtain ⟨Rn44, eRn44⟩ : ∃ z : SR, z = (f_X6_takes Rn26 59).2 := ⟨_, rfl⟩
      rw [sLet_eq, ← eRn44] at hR
      rw [← eRn44] at hP hD
      have ht45 : WFT Rn44 := by rw [eRn44]; exact hens38
      have hI46 : RA Rn44 := (by rw [eRn44]; exact ra_eq hI28 hens39)
      have hs47 : RS Rn44 := (by rw [eRn44]; exact rs_eq0 hs29 hens39)
      have hx48 : FX R Rn44 := (by rw [eRn44]; exact fx_tr hx30 hens40)
      have hmn49 : MN R Rn44 := (by rw [eRn44]; exact mn_tr hmn31 hens41)
      have hq50 : FX Rn26 Rn44 := by rw [eRn44]; exact hens40
      have hq51 : MN Rn26 Rn44 := by rw [eRn44]; exact hens41
      have hq52 : ((f_X6_takes Rn26 59).1) = 0 ∨ MS Rn26 Rn44 := by rw [eRn44]; exact hens42
      refine lv_if_eq (tgt := 38) hx hb dX6_readsFeed_33 (by decide) (fun c53 => ?_) (fun c53 => ?_)
      · rw [if_pos c53] at hR
        refine lv_iconst (v := 1) hx hb dX6_readsFeed_38 (by decide) ?_
        refine lv_istore_n (lv' := [(2, .int 1), (1, .int (Rn9 6 4)), (0, .ref (a 0))]) hx hb dX6_readsFeed_39 rfl hl (by decide) rfl (fun ls hl => ?_)
        have hL_40 : ∀ n_40 : Nat,  ∀ (x1_40 : Int32) (x2_40 : Int32) (R_40 : SR), RQ x2_40 R_40 n_40 → vp_in x1_40 4 → WFT R_40 → RA R_40 → RS R_40 → FX R R_40 → MN R R_40 → vp_in x1_40 4 → R0 = f_X6_readsFeed_p40 n_40 x1_40 x2_40 R_40 → ∀ (H : Heap) (locs : List Loc) (ls : Array Slot), va_P (dC, dI) vwCl (cMd a cI R_40) H → va_D (va_A (cMd a cI R) s.heap.size) (cMd a cI R_40) → va_S (va_A (cMd a cI R) s.heap.size) s.heap H locs → lv_has ls 3 [(0, .ref (a 0)), (1, .int x1_40), (2, .int x2_40)] → W p l e (headSpec wsX6_readsFeed rm_X6_readsFeed).room s m ([.ref (a 0)] : List Value).toArray below meth c H locs 0 0 (MQ below (va_Qi (fun (r : Int32) (u : SR) => (r, u) = f_X6_readsFeed R ∧ (WFT u) ∧ (RA u) ∧ (RS u) ∧ (FX R u) ∧ (MN R u) ∧ (r = 0 ∨ r = 1)) (fun u U => va_P (dC, dI) vwCl (cMd a cI u) U.heap ∧ va_D (va_A (cMd a cI R) s.heap.size) (cMd a cI u)) (va_A (cMd a cI R) s.heap.size)) ([.ref (a 0)] : List Value).toArray s 0 0 (va_A (cMd a cI R) s.heap.size)) (F0 m 40 ls []) := by
          intro n_40
          induction n_40 with
          | zero =>
            intro  x1_40 x2_40 R_40 hq_40 ev1_40 ht_40 hI_40 hs_40 hx_40 hmn_40 hf4_40
            exact (rq_0 hq_40).elim
          | succ n_40 ih_40 =>
            intro  x1_40 x2_40 R_40 hq_40 ev1_40 ht_40 hI_40 hs_40 hx_40 hmn_40 hf4_40 hR H locs ls hP hD hS hl
            rw [f_X6_readsFeed_p40] at hR
            refine lv_iload_n hx hb dX6_readsFeed_40 rfl (lv_at hl 2 rfl) ?_
            refine lv_if_eq (tgt := 64) hx hb dX6_readsFeed_41 (by decide) (fun c54 => ?_) (fun c54 => ?_)
            · rw [if_pos c54] at hR
              refine lv_aload_n hx hb dX6_readsFeed_64 rfl (lv_at hl 0 rfl) ?_
              refine lv_bipush (v := 59) hx hb dX6_readsFeed_65 (by decide) ?_
              have hPc : va_P (dC, dI) vwCl (cMd a cI R_40) H := hP.sub [0, 1, 2, 3, 4, 5, 6] rfl
              have hDc : va_D (va_A (cMd a cI R) s.heap.size) (cMd a cI R_40) := hD.sub [0, 1, 2, 3, 4, 5, 6] (by decide) rfl
              have hFc : ∀ q : Nat, va_A (cMd a cI R_40) H.size q → (va_A (cMd a cI R) s.heap.size) q := va_free hD hS hA [0, 1, 2, 3, 4, 5, 6] rfl
              refine va_calli (va_runV (As := [.int 59]) (rest := []) ⟨hx, hb, hml, hown, hts⟩ (c_X6_takes l dC dI cI cC cS a R_40 H.size 59 (by decide) ht_40) (cwV 1 hts gX6_readsFeed_X6_takes rfl rfl rfl (by decide +kernel) ⟨Nat.le_of_ble_eq_true rfl, Nat.le_of_ble_eq_true rfl⟩) (pV (q0 := 0) hK hPc hDc hN rfl rfl) rfl rfl hl.1 rfl (lv_room (Nat.le_of_ble_eq_true rfl)) dX6_readsFeed_67 ⟨Nat.le_of_ble_eq_true rfl, Nat.le_of_ble_eq_true rfl⟩) hS (fun q _ h => hFc q h) hFc (fun r_55 u_55 t_55 H56 locs ht hvm hw hB hz1 hk1 hS => ?_)
              obtain ⟨hw, hens57, hens58, hens59, hens60, hens61, hens62⟩ := hw
              obtain ⟨hP1, hD1⟩ := hB
              rw [ht] at hP1
              have hw1 : r_55 = (f_X6_takes R_40 59).1 := congrArg Prod.fst hw
              have hw2 : u_55 = (f_X6_takes R_40 59).2 := congrArg Prod.snd hw
              clear hw
              subst hw1
              subst hw2
              obtain ⟨hP, hD⟩ := va_join (wc := cMd a cI R_40) (wr := []) (w1 := cMd a cI ((f_X6_takes R_40 59).2)) hP hD [0, 1, 2, 3, 4, 5, 6] [] rfl rfl (by decide) (by decide) hk1 hFc hP1 hD1
              have hP : va_P (dC, dI) vwCl (cMd a cI ((f_X6_takes R_40 59).2)) H56 := hP.sub [0, 1, 2, 3, 4, 5, 6] rfl
              have hD : va_D (va_A (cMd a cI R) s.heap.size) (cMd a cI ((f_X6_takes R_40 59).2)) := hD.sub [0, 1, 2, 3, 4, 5, 6] (by decide) rfl
              obtain ⟨Rn63, eRn63⟩ : ∃ z : SR, z = (f_X6_takes R_40 59).2 := ⟨_, rfl⟩
              rw [sLet_eq, ← eRn63] at hR
              rw [← eRn63] at hP hD
              have ht64 : WFT Rn63 := by rw [eRn63]; exact hens57
              have hI65 : RA Rn63 := (by rw [eRn63]; exact ra_eq hI_40 hens58)
              have hs66 : RS Rn63 := (by rw [eRn63]; exact rs_eq0 hs_40 hens58)
              have hx67 : FX R Rn63 := (by rw [eRn63]; exact fx_tr hx_40 hens59)
              have hmn68 : MN R Rn63 := (by rw [eRn63]; exact mn_tr hmn_40 hens60)
              have hq69 : FX R_40 Rn63 := by rw [eRn63]; exact hens59
              have hq70 : MN R_40 Rn63 := by rw [eRn63]; exact hens60
              have hq71 : ((f_X6_takes R_40 59).1) = 0 ∨ MS R_40 Rn63 := by rw [eRn63]; exact hens61
              exact W.zret (v := (f_X6_takes R_40 59).1) hx hb hr (nar_bool hens62) (fun t ht hWw => ⟨⟨(f_X6_takes R_40 59).1, Rn63, rfl, ⟨hR.symm.trans eR, ht64, hI65, hs66, hx67, hmn68, hens62⟩, by rw [ht]; exact hP, hD⟩, hS.F ht⟩) hS.2.2 dX6_readsFeed_70
            · rw [if_neg c54] at hR
              refine lv_aload_n hx hb dX6_readsFeed_44 rfl (lv_at hl 0 rfl) ?_
              refine lv_iload_n hx hb dX6_readsFeed_45 rfl (lv_at hl 1 rfl) ?_
              have hPc : va_P (dC, dI) vwCl (cMd a cI R_40) H := hP.sub [0, 1, 2, 3, 4, 5, 6] rfl
              have hDc : va_D (va_A (cMd a cI R) s.heap.size) (cMd a cI R_40) := hD.sub [0, 1, 2, 3, 4, 5, 6] (by decide) rfl
              have hFc : ∀ q : Nat, va_A (cMd a cI R_40) H.size q → (va_A (cMd a cI R) s.heap.size) q := va_free hD hS hA [0, 1, 2, 3, 4, 5, 6] rfl
              refine va_calli (va_runV (As := [.int x1_40]) (rest := []) ⟨hx, hb, hml, hown, hts⟩ (c_X6_readsSend l dC dI cI cC cS a R_40 H.size x1_40 hf4_40 ht_40 hI_40 hs_40) (cwV 1 hts gX6_readsFeed_X6_readsSend rfl rfl rfl (by decide +kernel) ⟨Nat.le_of_ble_eq_true rfl, Nat.le_of_ble_eq_true rfl⟩) (pV (q0 := 0) hK hPc hDc hN rfl rfl) rfl rfl hl.1 rfl (lv_room (Nat.le_of_ble_eq_true rfl)) dX6_readsFeed_46 ⟨Nat.le_of_ble_eq_true rfl, Nat.le_of_ble_eq_true rfl⟩) hS (fun q _ h => hFc q h) hFc (fun r_72 u_72 t_72 H73 locs ht hvm hw hB hz1 hk1 hS => ?_)
              obtain ⟨hw, hens74, hens75, hens76, hens77, hens78, hens79⟩ := hw
              obtain ⟨hP1, hD1⟩ := hB
              rw [ht] at hP1
              have hw1 : r_72 = (f_X6_readsSend R_40 x1_40).1 := congrArg Prod.fst hw
              have hw2 : u_72 = (f_X6_readsSend R_40 x1_40).2 := congrArg Prod.snd hw
              clear hw
              subst hw1
              subst hw2
              obtain ⟨hP, hD⟩ := va_join (wc := cMd a cI R_40) (wr := []) (w1 := cMd a cI ((f_X6_readsSend R_40 x1_40).2)) hP hD [0, 1, 2, 3, 4, 5, 6] [] rfl rfl (by decide) (by decide) hk1 hFc hP1 hD1
              have hP : va_P (dC, dI) vwCl (cMd a cI ((f_X6_readsSend R_40 x1_40).2)) H73 := hP.sub [0, 1, 2, 3, 4, 5, 6] rfl
              have hD : va_D (va_A (cMd a cI R) s.heap.size) (cMd a cI ((f_X6_readsSend R_40 x1_40).2)) := hD.sub [0, 1, 2, 3, 4, 5, 6] (by decide) rfl
              obtain ⟨Rn80, eRn80⟩ : ∃ z : SR, z = (f_X6_readsSend R_40 x1_40).2 := ⟨_, rfl⟩
              rw [sLet_eq, ← eRn80] at hR
              rw [← eRn80] at hP hD
              have ht81 : WFT Rn80 := by rw [eRn80]; exact hens74
              have hI82 : RA Rn80 := by rw [eRn80]; exact hens75
              have hs83 : RS Rn80 := by rw [eRn80]; exact hens76
              have hx84 : FX R Rn80 := (by rw [eRn80]; exact fx_tr hx_40 hens77)
              have hmn85 : MN R Rn80 := (by rw [eRn80]; exact mn_tr hmn_40 hens78)
              have hq86 : FX R_40 Rn80 := by rw [eRn80]; exact hens77
              have hq87 : MN R_40 Rn80 := by rw [eRn80]; exact hens78
              refine lv_if_ne (tgt := 54) hx hb dX6_readsFeed_49 (by decide) (fun c88 => ?_) (fun c88 => ?_)
              · rw [if_neg c88] at hR
                refine lv_aload_n hx hb dX6_readsFeed_54 rfl (lv_at hl 0 rfl) ?_
                refine lv_bipush (v := 44) hx hb dX6_readsFeed_55 (by decide) ?_
                have hPc : va_P (dC, dI) vwCl (cMd a cI Rn80) H73 := hP.sub [0, 1, 2, 3, 4, 5, 6] rfl
                have hDc : va_D (va_A (cMd a cI R) s.heap.size) (cMd a cI Rn80) := hD.sub [0, 1, 2, 3, 4, 5, 6] (by decide) rfl
                have hFc : ∀ q : Nat, va_A (cMd a cI Rn80) H73.size q → (va_A (cMd a cI R) s.heap.size) q := va_free hD hS hA [0, 1, 2, 3, 4, 5, 6] rfl
                refine va_calli (va_runV (As := [.int 44]) (rest := []) ⟨hx, hb, hml, hown, hts⟩ (c_X6_takes l dC dI cI cC cS a Rn80 H73.size 44 (by decide) ht81) (cwV 1 hts gX6_readsFeed_X6_takes rfl rfl rfl (by decide +kernel) ⟨Nat.le_of_ble_eq_true rfl, Nat.le_of_ble_eq_true rfl⟩) (pV (q0 := 0) hK hPc hDc hN rfl rfl) rfl rfl hl.1 rfl (lv_room (Nat.le_of_ble_eq_true rfl)) dX6_readsFeed_57 ⟨Nat.le_of_ble_eq_true rfl, Nat.le_of_ble_eq_true rfl⟩) hS (fun q _ h => hFc q h) hFc (fun r_89 u_89 t_89 H90 locs ht hvm hw hB hz1 hk1 hS => ?_)
                obtain ⟨hw, hens91, hens92, hens93, hens94, hens95, hens96⟩ := hw
                obtain ⟨hP1, hD1⟩ := hB
                rw [ht] at hP1
                have hw1 : r_89 = (f_X6_takes Rn80 44).1 := congrArg Prod.fst hw
                have hw2 : u_89 = (f_X6_takes Rn80 44).2 := congrArg Prod.snd hw
                clear hw
                subst hw1
                subst hw2
                obtain ⟨hP, hD⟩ := va_join (wc := cMd a cI Rn80) (wr := []) (w1 := cMd a cI ((f_X6_takes Rn80 44).2)) hP hD [0, 1, 2, 3, 4, 5, 6] [] rfl rfl (by decide) (by decide) hk1 hFc hP1 hD1
                have hP : va_P (dC, dI) vwCl (cMd a cI ((f_X6_takes Rn80 44).2)) H90 := hP.sub [0, 1, 2, 3, 4, 5, 6] rfl
                have hD : va_D (va_A (cMd a cI R) s.heap.size) (cMd a cI ((f_X6_takes Rn80 44).2)) := hD.sub [0, 1, 2, 3, 4, 5, 6] (by decide) rfl
                obtain ⟨Rn97, eRn97⟩ : ∃ z : SR, z = (f_X6_takes Rn80 44).2 := ⟨_, rfl⟩
                rw [sLet_eq, ← eRn97] at hR
                rw [← eRn97] at hP hD
                have ht98 : WFT Rn97 := by rw [eRn97]; exact hens91
                have hI99 : RA Rn97 := (by rw [eRn97]; exact ra_eq hI82 hens92)
                have hs100 : RS Rn97 := (by rw [eRn97]; exact rs_eq0 hs83 hens92)
                have hx101 : FX R Rn97 := (by rw [eRn97]; exact fx_tr hx84 hens93)
                have hmn102 : MN R Rn97 := (by rw [eRn97]; exact mn_tr hmn85 hens94)
                have hq103 : FX Rn80 Rn97 := by rw [eRn97]; exact hens93
                have hq104 : MN Rn80 Rn97 := by rw [eRn97]; exact hens94
                have hq105 : ((f_X6_takes Rn80 44).1) = 0 ∨ MS Rn80 Rn97 := by rw [eRn97]; exact hens95
                refine lv_istore_n (lv' := [(2, .int ((f_X6_takes Rn80 44).1)), (0, .ref (a 0)), (1, .int x1_40)]) hx hb dX6_readsFeed_60 rfl hl (by decide) rfl (fun ls hl => ?_)
                refine lv_goto (tgt := 40) hx hb dX6_readsFeed_61 (by decide) ?_
                exact ih_40 x1_40 ((f_X6_takes Rn80 44).1) Rn97 (rq_back c54 hq_40 hq87 hq105) ev1_40 ht98 hI99 hs100 hx101 hmn102 hf4_40 hR _ _ _ hP hD hS (lv_sub hl [1, 2, 0] rfl)
              · rw [if_pos c88] at hR
                refine lv_iconst (v := 0) hx hb dX6_readsFeed_52 (by decide) ?_
                exact W.zret (v := 0) hx hb hr rfl (fun t ht hWw => ⟨⟨0, Rn80, rfl, ⟨hR.symm.trans eR, ht81, hI82, hs83, hx84, hmn85, (Or.inl rfl)⟩, by rw [ht]; exact hP, hD⟩, hS.F ht⟩) hS.2.2 dX6_readsFeed_53
        exact hL_40 144 (Rn9 6 4) 1 Rn44 (rq_in ht45) hnv17 ht45 hI46 hs47 hx48 hmn49 hnv17 hR _ _ _ hP hD hS (lv_sub hl [2, 1, 0] rfl)
      · rw [if_neg c53] at hR
        refine lv_iconst (v := 1) hx hb dX6_readsFeed_36 (by decide) ?_
        exact W.zret (v := 1) hx hb hr rfl (fun t ht hWw => ⟨⟨1, Rn44, rfl, ⟨hR.symm.trans eR, ht45, hI46, hs47, hx48, hmn49, (Or.inr rfl)⟩, by rw [ht]; exact hP, hD⟩, hS.F ht⟩) hS.2.2 dX6_readsFeed_37
    · rw [if_pos c35] at hR
      refine lv_iconst (v := 0) hx hb dX6_readsFeed_25 (by decide) ?_
      exact W.zret (v := 0) hx hb hr rfl (fun t ht hWw => ⟨⟨0, Rn26, rfl, ⟨hR.symm.trans eR, ht27, hI28, hs29, hx30, hmn31, (Or.inl rfl)⟩, by rw [ht]; exact hP, hD⟩, hS.F ht⟩) hS.2.2 dX6_readsFeed_26
  · rw [if_pos c16] at hR
    refine lv_iconst (v := 0) hx hb dX6_readsFeed_9 (by decide) ?_
    exact W.zret (v := 0) hx hb hr rfl (fun t ht hWw => ⟨⟨0, Rn9, rfl, ⟨hR.symm.trans eR, ht10, hI11, hs12, hx13, hmn14, (Or.inl rfl)⟩, by rw [ht]; exact hP, hD⟩, hS.F ht⟩) hS.2.2 dX6_readsFeed_10
abbrev rm_X6_readsItem : Room := { frames := 4, cells := 0, slots := 0, locals := 94 }
def f_X6_readsItem (R : SR)  : Int32 × SR := sLet ((f_X6_takes R 99).2) (fun Rn9 : SR => (if ((f_X6_takes R 99).1) = 0 then sLet ((f_X6_takes Rn9 120).2) (fun Rn25 : SR => (if ((f_X6_takes Rn9 120).1) = 0 then (0, Rn25) else sLet ((f_X6_readsFeed Rn25).2) (fun Rn43 : SR => (if ((f_X6_readsFeed Rn25).1) = 0 then (0, Rn43) else (1, Rn43))))) else sLet ((f_X6_readsChannel Rn9).2) (fun Rn60 : SR => ((f_X6_readsChannel Rn9).1, Rn60))))
set_option maxHeartbeats 4000000 in
set_option maxRecDepth 100000 in
theorem c_X6_readsItem (l : Launch) (dC : Nat → ClassId) (dI : Nat → Nat → Nat) (cI cC cS : ClassId) (a : Nat → Nat) (R : SR) (sz : Nat)  (ht : WFT R) (hI : RA R) (hs : RS R) : Met l yX6_readsItem wsX6_readsItem rm_X6_readsItem (PcG (dC, dI) (tyL cI cC cS) (cMd a cI R) sz [.ref (a 0)]) (va_Qi (fun (r : Int32) (u : SR) => (r, u) = f_X6_readsItem R ∧ (WFT u) ∧ (RA u) ∧ (RS u) ∧ (FX R u) ∧ (MN R u) ∧ (r = 0 ∨ MS R u) ∧ (r = 0 ∨ r = 1)) (fun u U => va_P (dC, dI) vwCl (cMd a cI u) U.heap ∧ va_D (va_A (cMd a cI R) sz) (cMd a cI u)) (va_A (cMd a cI R) sz)) 0 0 (va_A (cMd a cI R) sz) := by
  refine Met.ofW (cc := cX6_readsItem) (maxL := 1) (ret := (some .boolean)) (by decide) rfl ?_
  intro p e s m args below meth c s₁ B hml hv
  obtain ⟨rfl, hsz, hP, hK, hD0, hN⟩ := hv
  have hx := B.exec
  have hb := B.bytes
  have hr := B.returns
  have hts := atoms_spec (ws := wsX6_readsItem) B.pre
  have hown : s.vm.findClass RX6 = some m.cls := findClass_of_methodNamed B.named
  have hlocks := B.notSynchronized
  subst hsz
  have hD := hD0.self (sz := s.heap.size)
  have hA : ∀ q : Nat, s.heap.size ≤ q → (va_A (cMd a cI R) s.heap.size) q := fun q h => Or.inr h
  have hS : va_S (va_A (cMd a cI R) s.heap.size) s.heap s.heap [] := va_S.rf
  have hx_0 : FX R R := fx_rf
  have hmn_0 : MN R R := mn_rf
  have hl := lv_entry [.ref (a 0)] (n := 1) (Nat.le_of_ble_eq_true rfl)
  rw [lg_entry_eq]
  generalize (lg_sl [.ref (a 0)] ++ List.replicate (1 - (lg_sl [.ref (a 0)]).length) Slot.unset).toArray = ls at hl ⊢
  have hl : lv_has ls 1 [(0, .ref (a 0))] := hl
  obtain ⟨R0, eR⟩ : ∃ z, z = f_X6_readsItem R := ⟨_, rfl⟩
  have hR := eR
  rw [f_X6_readsItem] at hR
  refine lv_aload_n hx hb dX6_readsItem_0 rfl (lv_at hl 0 rfl) ?_
  refine lv_bipush (v := 99) hx hb dX6_readsItem_1 (by decide) ?_
  have hPc : va_P (dC, dI) vwCl (cMd a cI R) s.heap := hP.sub [0, 1, 2, 3, 4, 5, 6] rfl
  have hDc : va_D (va_A (cMd a cI R) s.heap.size) (cMd a cI R) := hD.sub [0, 1, 2, 3, 4, 5, 6] (by decide) rfl
  have hFc : ∀ q : Nat, va_A (cMd a cI R) s.heap.size q → (va_A (cMd a cI R) s.heap.size) q := va_free hD hS hA [0, 1, 2, 3, 4, 5, 6] rfl
  refine va_calli (va_runV (As := [.int 99]) (rest := []) ⟨hx, hb, hml, hown, hts⟩ (c_X6_takes l dC dI cI cC cS a R s.heap.size 99 (by decide) ht) (cwV 1 hts gX6_readsItem_X6_takes rfl rfl rfl (by decide +kernel) ⟨Nat.le_of_ble_eq_true rfl, Nat.le_of_ble_eq_true rfl⟩) (pV (q0 := 0) hK hPc hDc hN rfl rfl) rfl rfl hl.1 rfl (lv_room (Nat.le_of_ble_eq_true rfl)) dX6_readsItem_3 ⟨Nat.le_of_ble_eq_true rfl, Nat.le_of_ble_eq_true rfl⟩) hS (fun q _ h => hFc q h) hFc (fun r_1 u_1 t_1 H2 locs ht hvm hw hB hz1 hk1 hS => ?_)
  obtain ⟨hw, hens3, hens4, hens5, hens6, hens7, hens8⟩ := hw
  obtain ⟨hP1, hD1⟩ := hB
  rw [ht] at hP1
  have hw1 : r_1 = (f_X6_takes R 99).1 := congrArg Prod.fst hw
  have hw2 : u_1 = (f_X6_takes R 99).2 := congrArg Prod.snd hw
  clear hw
  subst hw1
  subst hw2
  obtain ⟨hP, hD⟩ := va_join (wc := cMd a cI R) (wr := []) (w1 := cMd a cI ((f_X6_takes R 99).2)) hP hD [0, 1, 2, 3, 4, 5, 6] [] rfl rfl (by decide) (by decide) hk1 hFc hP1 hD1
  have hP : va_P (dC, dI) vwCl (cMd a cI ((f_X6_takes R 99).2)) H2 := hP.sub [0, 1, 2, 3, 4, 5, 6] rfl
  have hD : va_D (va_A (cMd a cI R) s.heap.size) (cMd a cI ((f_X6_takes R 99).2)) := hD.sub [0, 1, 2, 3, 4, 5, 6] (by decide) rfl
  obtain ⟨Rn9, eRn9⟩ : ∃ z : SR, z = (f_X6_takes R 99).2 := ⟨_, rfl⟩
  rw [sLet_eq, ← eRn9] at hR
  rw [← eRn9] at hP hD
  have ht10 : WFT Rn9 := by rw [eRn9]; exact hens3
  have hI11 : RA Rn9 := (by rw [eRn9]; exact ra_eq hI hens4)
  have hs12 : RS Rn9 := (by rw [eRn9]; exact rs_eq0 hs hens4)
  have hx13 : FX R Rn9 := by rw [eRn9]; exact hens5
  have hmn14 : MN R Rn9 := by rw [eRn9]; exact hens6
  have hq15 : ((f_X6_takes R 99).1) = 0 ∨ MS R Rn9 := by rw [eRn9]; exact hens7
  refine lv_if_eq (tgt := 14) hx hb dX6_readsItem_6 (by decide) (fun c16 => ?_) (fun c16 => ?_)
  · rw [if_pos c16] at hR
    refine lv_aload_n hx hb dX6_readsItem_14 rfl (lv_at hl 0 rfl) ?_
    refine lv_bipush (v := 120) hx hb dX6_readsItem_15 (by decide) ?_
    have hPc : va_P (dC, dI) vwCl (cMd a cI Rn9) H2 := hP.sub [0, 1, 2, 3, 4, 5, 6] rfl
    have hDc : va_D (va_A (cMd a cI R) s.heap.size) (cMd a cI Rn9) := hD.sub [0, 1, 2, 3, 4, 5, 6] (by decide) rfl
    have hFc : ∀ q : Nat, va_A (cMd a cI Rn9) H2.size q → (va_A (cMd a cI R) s.heap.size) q := va_free hD hS hA [0, 1, 2, 3, 4, 5, 6] rfl
    refine va_calli (va_runV (As := [.int 120]) (rest := []) ⟨hx, hb, hml, hown, hts⟩ (c_X6_takes l dC dI cI cC cS a Rn9 H2.size 120 (by decide) ht10) (cwV 1 hts gX6_readsItem_X6_takes rfl rfl rfl (by decide +kernel) ⟨Nat.le_of_ble_eq_true rfl, Nat.le_of_ble_eq_true rfl⟩) (pV (q0 := 0) hK hPc hDc hN rfl rfl) rfl rfl hl.1 rfl (lv_room (Nat.le_of_ble_eq_true rfl)) dX6_readsItem_17 ⟨Nat.le_of_ble_eq_true rfl, Nat.le_of_ble_eq_true rfl⟩) hS (fun q _ h => hFc q h) hFc (fun r_17 u_17 t_17 H18 locs ht hvm hw hB hz1 hk1 hS => ?_)
    obtain ⟨hw, hens19, hens20, hens21, hens22, hens23, hens24⟩ := hw
    obtain ⟨hP1, hD1⟩ := hB
    rw [ht] at hP1
    have hw1 : r_17 = (f_X6_takes Rn9 120).1 := congrArg Prod.fst hw
    have hw2 : u_17 = (f_X6_takes Rn9 120).2 := congrArg Prod.snd hw
    clear hw
    subst hw1
    subst hw2
    obtain ⟨hP, hD⟩ := va_join (wc := cMd a cI Rn9) (wr := []) (w1 := cMd a cI ((f_X6_takes Rn9 120).2)) hP hD [0, 1, 2, 3, 4, 5, 6] [] rfl rfl (by decide) (by decide) hk1 hFc hP1 hD1
    have hP : va_P (dC, dI) vwCl (cMd a cI ((f_X6_takes Rn9 120).2)) H18 := hP.sub [0, 1, 2, 3, 4, 5, 6] rfl
    have hD : va_D (va_A (cMd a cI R) s.heap.size) (cMd a cI ((f_X6_takes Rn9 120).2)) := hD.sub [0, 1, 2, 3, 4, 5, 6] (by decide) rfl
    obtain ⟨Rn25, eRn25⟩ : ∃ z : SR, z = (f_X6_takes Rn9 120).2 := ⟨_, rfl⟩
    rw [sLet_eq, ← eRn25] at hR
    rw [← eRn25] at hP hD
    have ht26 : WFT Rn25 := by rw [eRn25]; exact hens19
    have hI27 : RA Rn25 := (by rw [eRn25]; exact ra_eq hI11 hens20)
    have hs28 : RS Rn25 := (by rw [eRn25]; exact rs_eq0 hs12 hens20)
    have hx29 : FX R Rn25 := (by rw [eRn25]; exact fx_tr hx13 hens21)
    have hmn30 : MN R Rn25 := (by rw [eRn25]; exact mn_tr hmn14 hens22)
    have hq31 : FX Rn9 Rn25 := by rw [eRn25]; exact hens21
    have hq32 : MN Rn9 Rn25 := by rw [eRn25]; exact hens22
    have hq33 : ((f_X6_takes Rn9 120).1) = 0 ∨ MS Rn9 Rn25 := by rw [eRn25]; exact hens23
    refine lv_if_eq (tgt := 34) hx hb dX6_readsItem_20 (by decide) (fun c34 => ?_) (fun c34 => ?_)
    · rw [if_pos c34] at hR
      refine lv_iconst (v := 0) hx hb dX6_readsItem_34 (by decide) ?_
      exact W.zret (v := 0) hx hb hr rfl (fun t ht hWw => ⟨⟨0, Rn25, rfl, ⟨hR.symm.trans eR, ht26, hI27, hs28, hx29, hmn30, (Or.inl rfl), (Or.inl rfl)⟩, by rw [ht]; exact hP, hD⟩, hS.F ht⟩) hS.2.2 dX6_readsItem_35
    · rw [if_neg c34] at hR
      refine lv_aload_n hx hb dX6_readsItem_23 rfl (lv_at hl 0 rfl) ?_
      have hPc : va_P (dC, dI) vwCl (cMd a cI Rn25) H18 := hP.sub [0, 1, 2, 3, 4, 5, 6] rfl
      have hDc : va_D (va_A (cMd a cI R) s.heap.size) (cMd a cI Rn25) := hD.sub [0, 1, 2, 3, 4, 5, 6] (by decide) rfl
      have hFc : ∀ q : Nat, va_A (cMd a cI Rn25) H18.size q → (va_A (cMd a cI R) s.heap.size) q := va_free hD hS hA [0, 1, 2, 3, 4, 5, 6] rfl
      refine va_calli (va_runV (As := []) (rest := []) ⟨hx, hb, hml, hown, hts⟩ (c_X6_readsFeed l dC dI cI cC cS a Rn25 H18.size ht26 hI27 hs28) (cwV 0 hts gX6_readsItem_X6_readsFeed rfl rfl rfl (by decide +kernel) ⟨Nat.le_of_ble_eq_true rfl, Nat.le_of_ble_eq_true rfl⟩) (pV (q0 := 0) hK hPc hDc hN rfl rfl) rfl rfl hl.1 rfl (lv_room (Nat.le_of_ble_eq_true rfl)) dX6_readsItem_24 ⟨Nat.le_of_ble_eq_true rfl, Nat.le_of_ble_eq_true rfl⟩) hS (fun q _ h => hFc q h) hFc (fun r_35 u_35 t_35 H36 locs ht hvm hw hB hz1 hk1 hS => ?_)
      obtain ⟨hw, hens37, hens38, hens39, hens40, hens41, hens42⟩ := hw
      obtain ⟨hP1, hD1⟩ := hB
      rw [ht] at hP1
      have hw1 : r_35 = (f_X6_readsFeed Rn25).1 := congrArg Prod.fst hw
      have hw2 : u_35 = (f_X6_readsFeed Rn25).2 := congrArg Prod.snd hw
      clear hw
      subst hw1
      subst hw2
      obtain ⟨hP, hD⟩ := va_join (wc := cMd a cI Rn25) (wr := []) (w1 := cMd a cI ((f_X6_readsFeed Rn25).2)) hP hD [0, 1, 2, 3, 4, 5, 6] [] rfl rfl (by decide) (by decide) hk1 hFc hP1 hD1
      have hP : va_P (dC, dI) vwCl (cMd a cI ((f_X6_readsFeed Rn25).2)) H36 := hP.sub [0, 1, 2, 3, 4, 5, 6] rfl
      have hD : va_D (va_A (cMd a cI R) s.heap.size) (cMd a cI ((f_X6_readsFeed Rn25).2)) := hD.sub [0, 1, 2, 3, 4, 5, 6] (by decide) rfl
      obtain ⟨Rn43, eRn43⟩ : ∃ z : SR, z = (f_X6_readsFeed Rn25).2 := ⟨_, rfl⟩
      rw [sLet_eq, ← eRn43] at hR
      rw [← eRn43] at hP hD
      have ht44 : WFT Rn43 := by rw [eRn43]; exact hens37
      have hI45 : RA Rn43 := by rw [eRn43]; exact hens38
      have hs46 : RS Rn43 := by rw [eRn43]; exact hens39
      have hx47 : FX R Rn43 := (by rw [eRn43]; exact fx_tr hx29 hens40)
      have hmn48 : MN R Rn43 := (by rw [eRn43]; exact mn_tr hmn30 hens41)
      have hq49 : FX Rn25 Rn43 := by rw [eRn43]; exact hens40
      have hq50 : MN Rn25 Rn43 := by rw [eRn43]; exact hens41
      refine lv_if_eq (tgt := 34) hx hb dX6_readsItem_27 (by decide) (fun c51 => ?_) (fun c51 => ?_)
      · rw [if_pos c51] at hR
        refine lv_iconst (v := 0) hx hb dX6_readsItem_34 (by decide) ?_
        exact W.zret (v := 0) hx hb hr rfl (fun t ht hWw => ⟨⟨0, Rn43, rfl, ⟨hR.symm.trans eR, ht44, hI45, hs46, hx47, hmn48, (Or.inl rfl), (Or.inl rfl)⟩, by rw [ht]; exact hP, hD⟩, hS.F ht⟩) hS.2.2 dX6_readsItem_35
      · rw [if_neg c51] at hR
        refine lv_iconst (v := 1) hx hb dX6_readsItem_30 (by decide) ?_
        refine lv_goto (tgt := 35) hx hb dX6_readsItem_31 (by decide) ?_
        exact W.zret (v := 1) hx hb hr rfl (fun t ht hWw => ⟨⟨1, Rn43, rfl, ⟨hR.symm.trans eR, ht44, hI45, hs46, hx47, hmn48, (Or.inr (ms_mn (mn_ms hmn14 (hq33.resolve_left c34)) hq50)), (Or.inr rfl)⟩, by rw [ht]; exact hP, hD⟩, hS.F ht⟩) hS.2.2 dX6_readsItem_35
  · rw [if_neg c16] at hR
    refine lv_aload_n hx hb dX6_readsItem_9 rfl (lv_at hl 0 rfl) ?_
    have hPc : va_P (dC, dI) vwCl (cMd a cI Rn9) H2 := hP.sub [0, 1, 2, 3, 4, 5, 6] rfl
    have hDc : va_D (va_A (cMd a cI R) s.heap.size) (cMd a cI Rn9) := hD.sub [0, 1, 2, 3, 4, 5, 6] (by decide) rfl
    have hFc : ∀ q : Nat, va_A (cMd a cI Rn9) H2.size q → (va_A (cMd a cI R) s.heap.size) q := va_free hD hS hA [0, 1, 2, 3, 4, 5, 6] rfl
    refine va_calli (va_runV (As := []) (rest := []) ⟨hx, hb, hml, hown, hts⟩ (c_X6_readsChannel l dC dI cI cC cS a Rn9 H2.size ht10 hI11 hs12) (cwV 0 hts gX6_readsItem_X6_readsChannel rfl rfl rfl (by decide +kernel) ⟨Nat.le_of_ble_eq_true rfl, Nat.le_of_ble_eq_true rfl⟩) (pV (q0 := 0) hK hPc hDc hN rfl rfl) rfl rfl hl.1 rfl (lv_room (Nat.le_of_ble_eq_true rfl)) dX6_readsItem_10 ⟨Nat.le_of_ble_eq_true rfl, Nat.le_of_ble_eq_true rfl⟩) hS (fun q _ h => hFc q h) hFc (fun r_52 u_52 t_52 H53 locs ht hvm hw hB hz1 hk1 hS => ?_)
    obtain ⟨hw, hens54, hens55, hens56, hens57, hens58, hens59⟩ := hw
    obtain ⟨hP1, hD1⟩ := hB
    rw [ht] at hP1
    have hw1 : r_52 = (f_X6_readsChannel Rn9).1 := congrArg Prod.fst hw
    have hw2 : u_52 = (f_X6_readsChannel Rn9).2 := congrArg Prod.snd hw
    clear hw
    subst hw1
    subst hw2
    obtain ⟨hP, hD⟩ := va_join (wc := cMd a cI Rn9) (wr := []) (w1 := cMd a cI ((f_X6_readsChannel Rn9).2)) hP hD [0, 1, 2, 3, 4, 5, 6] [] rfl rfl (by decide) (by decide) hk1 hFc hP1 hD1
    have hP : va_P (dC, dI) vwCl (cMd a cI ((f_X6_readsChannel Rn9).2)) H53 := hP.sub [0, 1, 2, 3, 4, 5, 6] rfl
    have hD : va_D (va_A (cMd a cI R) s.heap.size) (cMd a cI ((f_X6_readsChannel Rn9).2)) := hD.sub [0, 1, 2, 3, 4, 5, 6] (by decide) rfl
    obtain ⟨Rn60, eRn60⟩ : ∃ z : SR, z = (f_X6_readsChannel Rn9).2 := ⟨_, rfl⟩
    rw [sLet_eq, ← eRn60] at hR
    rw [← eRn60] at hP hD
    have ht61 : WFT Rn60 := by rw [eRn60]; exact hens54
    have hI62 : RA Rn60 := by rw [eRn60]; exact hens55
    have hs63 : RS Rn60 := by rw [eRn60]; exact hens56
    have hx64 : FX R Rn60 := (by rw [eRn60]; exact fx_tr hx13 hens57)
    have hmn65 : MN R Rn60 := (by rw [eRn60]; exact mn_tr hmn14 hens58)
    have hq66 : FX Rn9 Rn60 := by rw [eRn60]; exact hens57
    have hq67 : MN Rn9 Rn60 := by rw [eRn60]; exact hens58
    exact W.zret (v := (f_X6_readsChannel Rn9).1) hx hb hr (nar_bool hens59) (fun t ht hWw => ⟨⟨(f_X6_readsChannel Rn9).1, Rn60, rfl, ⟨hR.symm.trans eR, ht61, hI62, hs63, hx64, hmn65, (Or.inr (ms_mn (hq15.resolve_left c16) hq67)), hens59⟩, by rw [ht]; exact hP, hD⟩, hS.F ht⟩) hS.2.2 dX6_readsItem_13
