abbrev rm_X6_goes : Room := { frames := 4, cells := 0, slots := 0, locals := 88 }
def f_X6_goes (R : SR) (p1 : Int32) (p2 : Int32) : Int32 × SR := sLet (sU R 6 6 (((R 6 6) * (f_X6_gain R p1 (R 4 ((R 6 5) - 1).toNatClampNeg))) / 100)) (fun Rn4 : SR => (if (f_X6_gain R p1 (R 4 ((R 6 5) - 1).toNatClampNeg)) = 0 then (0, Rn4) else (if p2 = 0 then (if (Rn4 0 (84 + p1).toNatClampNeg) = (-1) then (0, Rn4) else (if p2 = 0 then sLet (sU Rn4 4 (Rn4 6 5).toNatClampNeg (Rn4 0 (84 + p1).toNatClampNeg)) (fun Rn36 : SR => sLet (sU Rn36 6 5 ((Rn36 6 5) + 1)) (fun Rn45 : SR => (1, Rn45))) else (1, Rn4))) else (if p2 = 0 then sLet (sU Rn4 4 (Rn4 6 5).toNatClampNeg (Rn4 0 (84 + p1).toNatClampNeg)) (fun Rn16 : SR => sLet (sU Rn16 6 5 ((Rn16 6 5) + 1)) (fun Rn25 : SR => (1, Rn25))) else (1, Rn4)))))
set_option maxHeartbeats 4000000 in
set_option maxRecDepth 100000 in
theorem c_X6_goes (l : Launch) (dC : Nat → ClassId) (dI : Nat → Nat → Nat) (cI cC cS : ClassId) (a : Nat → Nat) (R : SR) (sz : Nat) (p1 : Int32) (p2 : Int32) (h1 : vp_in p1 4) (hw : WY 4 R) (hwl : p2 = 0 → WY 3 R) (hI : RA R) (hs : RS R) (hbl : BL R) : Met l yX6_goes wsX6_goes rm_X6_goes (PcG (dC, dI) (tyL cI cC cS) (cMd a cI R) sz [.ref (a 0), .int p1, .int p2]) (va_Qi (fun (r : Int32) (u : SR) => (r, u) = f_X6_goes R p1 p2 ∧ (RA u) ∧ (RS u) ∧ (FX R u) ∧ (u 0 = R 0) ∧ (BL u) ∧ (∀ n : Nat, n ≤ 4 → WY n R → WY (n + 1) u ∧ ((p2 : Int32) = 0 ∨ WY n u)) ∧ (r = 0 ∨ r = 1)) (fun u U => va_P (dC, dI) vwCl (cMd a cI u) U.heap ∧ va_D (va_A (cMd a cI R) sz) (cMd a cI u)) (va_A (cMd a cI R) sz)) 0 0 (va_A (cMd a cI R) sz) := by
  refine Met.ofW (cc := cX6_goes) (maxL := 4) (ret := (some .boolean)) (by decide) rfl ?_
  intro p e s m args below meth c s₁ B hml hv
  obtain ⟨rfl, hsz, hP, hK, hD0, hN⟩ := hv
  have hx := B.exec
  have hb := B.bytes
  have hr := B.returns
  have hts := atoms_spec (ws := wsX6_goes) B.pre
  have hown : s.vm.findClass RX6 = some m.cls := findClass_of_methodNamed B.named
  have hlocks := B.notSynchronized
  subst hsz
  have hD := hD0.self (sz := s.heap.size)
  have hA : ∀ q : Nat, s.heap.size ≤ q → (va_A (cMd a cI R) s.heap.size) q := fun q h => Or.inr h
  have hS : va_S (va_A (cMd a cI R) s.heap.size) s.heap s.heap [] := va_S.rf
  have hin6 : ∀ w ∈ wsX60, w ∈ wsX6_goes := fun _ h => List.mem_cons_of_mem _ (List.mem_append_right _ h)
  obtain ⟨ip1, hip1, ep1⟩ := vp_in_of h1 (by decide)
  have hx_0 : FX R R := fx_rf
  have h0_0 : R 0 = R 0 := rfl
  have hl := lv_entry [.ref (a 0), .int p1, .int p2] (n := 4) (Nat.le_of_ble_eq_true rfl)
  rw [lg_entry_eq]
  generalize (lg_sl [.ref (a 0), .int p1, .int p2] ++ List.replicate (4 - (lg_sl [.ref (a 0), .int p1, .int p2]).length) Slot.unset).toArray = ls at hl ⊢
  have hl : lv_has ls 4 [(0, .ref (a 0)), (1, .int p1), (2, .int p2)] := hl
  obtain ⟨R0, eR⟩ : ∃ z, z = f_X6_goes R p1 p2 := ⟨_, rfl⟩
  have hR := eR
  rw [f_X6_goes] at hR
  refine lv_aload_n hx hb dX6_goes_0 rfl (lv_at hl 0 rfl) ?_
  refine lv_iload_n hx hb dX6_goes_1 rfl (lv_at hl 1 rfl) ?_
  refine lv_aload_n hx hb dX6_goes_2 rfl (lv_at hl 0 rfl) ?_
  refine va_get (D := (dC, dI)) (ci := 6) (v := .ref (a 5)) (C := RX6) (T := TX6) (N := 15) hx hb hts hin6 hown hK hP 0 rfl rfl 9 (by decide) (hts (.fieldLink RX6 22 "FeedDeskModel" "way" "[I") (List.mem_of_getElem? (i := 1) rfl)) (fun _ h9 => h9) rfl dX6_goes_3 ?_
  refine lv_aload_n hx hb dX6_goes_6 rfl (lv_at hl 0 rfl) ?_
  refine va_get (D := (dC, dI)) (ci := 6) (v := .int (R 6 5)) (C := RX6) (T := TX6) (N := 15) hx hb hts hin6 hown hK hP 0 rfl rfl 11 (by decide) (hts (.fieldLink RX6 181 "FeedDeskModel" "wayLength" "I") (List.mem_of_getElem? (i := 2) rfl)) (fun _ h9 => h9) rfl dX6_goes_7 ?_
  refine lv_iconst (v := 1) hx hb dX6_goes_10 (by decide) ?_
  refine lv_isub hx hb dX6_goes_11 ?_
  refine va_iald (f := R 4) hx hb hK hP 5 0 rfl rfl (wy_last hw).1 dX6_goes_12 ?_
  have hPc : va_P (dC, dI) vwCl (cMd a cI R) s.heap := hP.sub [0, 1, 2, 3, 4, 5, 6] rfl
  have hDc : va_D (va_A (cMd a cI R) s.heap.size) (cMd a cI R) := hD.sub [0, 1, 2, 3, 4, 5, 6] (by decide) rfl
  have hFc : ∀ q : Nat, va_A [] s.heap.size q → (va_A (cMd a cI R) s.heap.size) q := roF hS hA
  refine va_calli (va_runV (As := [.int p1, .int (R 4 ((R 6 5) - 1).toNatClampNeg)]) (rest := []) ⟨hx, hb, hml, hown, hts⟩ (c_X6_gain l dC dI cI cC cS a R s.heap.size p1 (R 4 ((R 6 5) - 1).toNatClampNeg) h1 (wy_last hw).2) (cwV 2 hts gX6_goes_X6_gain rfl rfl rfl (by decide +kernel) ⟨Nat.le_of_ble_eq_true rfl, Nat.le_of_ble_eq_true rfl⟩) (pV (q0 := 0) hK hPc hDc hN rfl rfl) rfl rfl hl.1 rfl (lv_room (Nat.le_of_ble_eq_true rfl)) dX6_goes_13 ⟨Nat.le_of_ble_eq_true rfl, Nat.le_of_ble_eq_true rfl⟩) hS (fun q _ h => hFc q h) hFc (fun r_1 u_1 t_1 H2 locs ht hvm hw hB hz1 hk1 hS => ?_)
  subst hw
  have hP := ro_keep hP hk1
  refine lv_istore_n (lv' := [(3, .int (f_X6_gain R p1 (R 4 ((R 6 5) - 1).toNatClampNeg))), (0, .ref (a 0)), (1, .int p1), (2, .int p2)]) hx hb dX6_goes_16 rfl hl (by decide) rfl (fun ls hl => ?_)
  refine lv_aload_n hx hb dX6_goes_17 rfl (lv_at hl 1 rfl) ?_
  refine lv_aload_n hx hb dX6_goes_18 rfl (lv_at hl 1 rfl) ?_
  refine va_get (D := (dC, dI)) (ci := 6) (v := .int (R 6 6)) (C := RX6) (T := TX6) (N := 15) hx hb hts hin6 hown hK hP 0 rfl rfl 12 (by decide) (hts (.fieldLink RX6 184 "FeedDeskModel" "wayGain" "I") (List.mem_of_getElem? (i := 3) rfl)) (fun _ h9 => h9) rfl dX6_goes_19 ?_
  refine lv_iload_n hx hb dX6_goes_22 rfl (lv_at hl 0 rfl) ?_
  refine lv_imul hx hb dX6_goes_23 ?_
  refine lv_bipush (v := 100) hx hb dX6_goes_24 (by decide) ?_
  refine lv_idiv hx hb dX6_goes_26 (by decide) ?_
  refine va_put (D := (dC, dI)) (ci := 6) (v := .int (((R 6 6) * (f_X6_gain R p1 (R 4 ((R 6 5) - 1).toNatClampNeg))) / 100)) (ty := .int) (C := RX6) (T := TX6) (N := 15) hx hb hts hin6 tyX6 tyX6_ok nmX6 hown hK hP hD hS 0 rfl rfl 12 (by decide) (hts (.fieldLink RX6 184 "FeedDeskModel" "wayGain" "I") (List.mem_of_getElem? (i := 3) rfl)) (fun _ h9 => h9) rfl (by decide +kernel) rfl rfl (Nat.le_of_ble_eq_true rfl) dX6_goes_27 (fun H3 locs hP hD hS => ?_)
  have hP : va_P (dC, dI) vwCl (cMd a cI (sU R 6 6 (((R 6 6) * (f_X6_gain R p1 (R 4 ((R 6 5) - 1).toNatClampNeg))) / 100))) H3 := hP
  have hD : va_D (va_A (cMd a cI R) s.heap.size) (cMd a cI (sU R 6 6 (((R 6 6) * (f_X6_gain R p1 (R 4 ((R 6 5) - 1).toNatClampNeg))) / 100))) := hD
  obtain ⟨Rn4, eRn4⟩ : ∃ z : SR, z = sU R 6 6 (((R 6 6) * (f_X6_gain R p1 (R 4 ((R 6 5) - 1).toNatClampNeg))) / 100) := ⟨_, rfl⟩
  rw [sLet_eq, ← eRn4] at hR
  rw [← eRn4] at hP hD
  have hI5 : RA Rn4 := (by rw [eRn4]; exact hI)
  have hs6 : RS Rn4 := (by rw [eRn4]; exact hs)
  have hx7 : FX R Rn4 := (by rw [eRn4]; exact hx_0)
  have h08 : Rn4 0 = R 0 := (by rw [eRn4]; exact h0_0)
  have hbl9 : BL Rn4 := (by rw [eRn4]; exact hbl)
  have ow10 : WY 4 Rn4 := (by rw [eRn4]; exact hw)
  have ol11 : p2 = 0 → WY 3 Rn4 := (by rw [eRn4]; exact hwl)
  refine lv_iload_n hx hb dX6_goes_30 rfl (lv_at hl 0 rfl) ?_
  refine lv_if_eq (tgt := 51) hx hb dX6_goes_31 (by decide) (fun c12 => ?_) (fun c12 => ?_)
  · rw [if_pos c12] at hR
    refine lv_iconst (v := 0) hx hb dX6_goes_51 (by decide) ?_
    exact W.zret (v := 0) hx hb hr rfl (fun t ht hWw => ⟨⟨0, Rn4, rfl, ⟨hR.symm.trans eR, hI5, hs6, hx7, h08, hbl9, (fun n hn h => ⟨wy_up (show WY n Rn4 by rw [eRn4]; exact h) (Nat.le_succ n), Or.inr (show WY n Rn4 by rw [eRn4]; exact h)⟩), (Or.inl rfl)⟩, by rw [ht]; exact hP, hD⟩, hS.F ht⟩) hS.2.2 dX6_goes_52
  · rw [if_neg c12] at hR
    refine lv_iload_n hx hb dX6_goes_34 rfl (lv_at hl 3 rfl) ?_
    refine lv_if_ne (tgt := 53) hx hb dX6_goes_35 (by decide) (fun c13 => ?_) (fun c13 => ?_)
    · rw [if_neg c13] at hR
      refine lv_iload_n hx hb dX6_goes_53 rfl (lv_at hl 3 rfl) ?_
      refine lv_if_ne (tgt := 85) hx hb dX6_goes_54 (by decide) (fun c14 => ?_) (fun c14 => ?_)
      · rw [if_neg c14] at hR
        refine lv_iconst (v := 1) hx hb dX6_goes_85 (by decide) ?_
        exact W.zret (v := 1) hx hb hr rfl (fun t ht hWw => ⟨⟨1, Rn4, rfl, ⟨hR.symm.trans eR, hI5, hs6, hx7, h08, hbl9, (fun n hn h => ⟨wy_up (show WY n Rn4 by rw [eRn4]; exact h) (Nat.le_succ n), Or.inr (show WY n Rn4 by rw [eRn4]; exact h)⟩), (Or.inr rfl)⟩, by rw [ht]; exact hP, hD⟩, hS.F ht⟩) hS.2.2 dX6_goes_86
      · rw [if_pos c14] at hR
        refine lv_aload_n hx hb dX6_goes_57 rfl (lv_at hl 1 rfl) ?_
        refine va_get (D := (dC, dI)) (ci := 6) (v := .ref (a 5)) (C := RX6) (T := TX6) (N := 15) hx hb hts hin6 hown hK hP 0 rfl rfl 9 (by decide) (hts (.fieldLink RX6 22 "FeedDeskModel" "way" "[I") (List.mem_of_getElem? (i := 1) rfl)) (fun _ h9 => h9) rfl dX6_goes_58 ?_
        refine lv_aload_n hx hb dX6_goes_61 rfl (lv_at hl 1 rfl) ?_
        refine va_get (D := (dC, dI)) (ci := 6) (v := .int (Rn4 6 5)) (C := RX6) (T := TX6) (N := 15) hx hb hts hin6 hown hK hP 0 rfl rfl 11 (by decide) (hts (.fieldLink RX6 181 "FeedDeskModel" "wayLength" "I") (List.mem_of_getElem? (i := 2) rfl)) (fun _ h9 => h9) rfl dX6_goes_62 ?_
        refine lv_aload_n hx hb dX6_goes_65 rfl (lv_at hl 1 rfl) ?_
        refine va_get (D := (dC, dI)) (ci := 6) (v := .ref (a 1)) (C := RX6) (T := TX6) (N := 15) hx hb hts hin6 hown hK hP 0 rfl rfl 1 (by decide) (hts (.fieldLink RX6 7 "FeedDeskModel" "s" "[I") (List.mem_of_getElem? (i := 4) rfl)) (fun _ h9 => h9) rfl dX6_goes_66 ?_
        refine lv_bipush (v := 84) hx hb dX6_goes_69 (by decide) ?_
        refine lv_iload_n hx hb dX6_goes_71 rfl (lv_at hl 2 rfl) ?_
        refine lv_iadd hx hb dX6_goes_72 ?_
        refine va_iald (f := Rn4 0) hx hb hK hP 1 0 rfl rfl (by rw [ep1]; exact vp_of_B (ix_16 ip1 hip1)) dX6_goes_73 ?_
        refine va_iast (f := Rn4 4) hx hb hK hP hD hS 5 0 rfl rfl (absurd c14 c13) dX6_goes_74 (fun H15 locs hP hD hS => ?_)
        have hP : va_P (dC, dI) vwCl (cMd a cI (sU Rn4 4 (Rn4 6 5).toNatClampNeg (Rn4 0 (84 + p1).toNatClampNeg))) H15 := hP
        have hD : va_D (va_A (cMd a cI R) s.heap.size) (cMd a cI (sU Rn4 4 (Rn4 6 5).toNatClampNeg (Rn4 0 (84 + p1).toNatClampNeg))) := hD
        obtain ⟨Rn16, eRn16⟩ : ∃ z : SR, z = sU Rn4 4 (Rn4 6 5).toNatClampNeg (Rn4 0 (84 + p1).toNatClampNeg) := ⟨_, rfl⟩
        rw [sLet_eq, ← eRn16] at hR
        rw [← eRn16] at hP hD
        have hI17 : RA Rn16 := (by rw [eRn16]; exact hI5)
        have hs18 : RS Rn16 := (by rw [eRn16]; exact hs6)
        have hx19 : FX R Rn16 := (by rw [eRn16]; exact hx7)
        have h020 : Rn16 0 = R 0 := (by rw [eRn16]; exact h08)
        have hbl21 : BL Rn16 := (by rw [eRn16]; exact hbl9)
        refine lv_aload_n hx hb dX6_goes_75 rfl (lv_at hl 1 rfl) ?_
        refine lv_dup hx hb dX6_goes_76 rfl ?_
        refine va_get (D := (dC, dI)) (ci := 6) (v := .int (Rn16 6 5)) (C := RX6) (T := TX6) (N := 15) hx hb hts hin6 hown hK hP 0 rfl rfl 11 (by decide) (hts (.fieldLink RX6 181 "FeedDeskModel" "wayLength" "I") (List.mem_of_getElem? (i := 2) rfl)) (fun _ h9 => h9) rfl dX6_goes_77 ?_
        refine lv_iconst (v := 1) hx hb dX6_goes_80 (by decide) ?_
        refine lv_iadd hx hb dX6_goes_81 ?_
        refine va_put (D := (dC, dI)) (ci := 6) (v := .int ((Rn16 6 5) + 1)) (ty := .int) (C := RX6) (T := TX6) (N := 15) hx hb hts hin6 tyX6 tyX6_ok nmX6 hown hK hP hD hS 0 rfl rfl 11 (by decide) (hts (.fieldLink RX6 181 "FeedDeskModel" "wayLength" "I") (List.mem_of_getElem? (i := 2) rfl)) (fun _ h9 => h9) rfl (by decide +kernel) rfl rfl (Nat.le_of_ble_eq_true rfl) dX6_goes_82 (fun H24 locs hP hD hS => ?_)
        have hP : va_P (dC, dI) vwCl (cMd a cI (sU Rn16 6 5 ((Rn16 6 5) + 1))) H24 := hP
        have hD : va_D (va_A (cMd a cI R) s.heap.size) (cMd a cI (sU Rn16 6 5 ((Rn16 6 5) + 1))) := hD
        obtain ⟨Rn25, eRn25⟩ : ∃ z : SR, z = sU Rn16 6 5 ((Rn16 6 5) + 1) := ⟨_, rfl⟩
        rw [sLet_eq, ← eRn25] at hR
        rw [← eRn25] at hP hD
        have hI26 : RA Rn25 := (by rw [eRn25]; exact hI17)
        have hs27 : RS Rn25 := (by rw [eRn25]; exact hs18)
        have hx28 : FX R Rn25 := (by rw [eRn25]; exact hx19)
        have h029 : Rn25 0 = R 0 := (by rw [eRn25]; exact h020)
        have hbl30 : BL Rn25 := (by rw [eRn25]; exact hbl21)
        refine lv_iconst (v := 1) hx hb dX6_goes_85 (by decide) ?_
        exact W.zret (v := 1) hx hb hr rfl (fun t ht hWw => ⟨⟨1, Rn25, rfl, ⟨hR.symm.trans eR, hI26, hs27, hx28, h029, hbl30, (absurd c14 c13), (Or.inr rfl)⟩, by rw [ht]; exact hP, hD⟩, hS.F ht⟩) hS.2.2 dX6_goes_86
    · rw [if_pos c13] at hR
      refine lv_aload_n hx hb dX6_goes_38 rfl (lv_at hl 1 rfl) ?_
      refine va_get (D := (dC, dI)) (ci := 6) (v := .ref (a 1)) (C := RX6) (T := TX6) (N := 15) hx hb hts hin6 hown hK hP 0 rfl rfl 1 (by decide) (hts (.fieldLink RX6 7 "FeedDeskModel" "s" "[I") (List.mem_of_getElem? (i := 4) rfl)) (fun _ h9 => h9) rfl dX6_goes_39 ?_
      refine lv_bipush (v := 84) hx hb dX6_goes_42 (by decide) ?_
      refine lv_iload_n hx hb dX6_goes_44 rfl (lv_at hl 2 rfl) ?_
      refine lv_iadd hx hb dX6_goes_45 ?_
      refine va_iald (f := Rn4 0) hx hb hK hP 1 0 rfl rfl (by rw [ep1]; exact vp_of_B (ix_16 ip1 hip1)) dX6_goes_46 ?_
      refine lv_iconst (v := (-1)) hx hb dX6_goes_47 (by decide) ?_
      refine lv_icmp_ne (tgt := 53) hx hb dX6_goes_48 (by decide) (fun c33 => ?_) (fun c33 => ?_)
      · rw [if_neg c33] at hR
        refine lv_iload_n hx hb dX6_goes_53 rfl (lv_at hl 3 rfl) ?_
        refine lv_if_ne (tgt := 85) hx hb dX6_goes_54 (by decide) (fun c34 => ?_) (fun c34 => ?_)
        · rw [if_neg c34] at hR
          refine lv_iconst (v := 1) hx hb dX6_goes_85 (by decide) ?_
          exact W.zret (v := 1) hx hb hr rfl (fun t ht hWw => ⟨⟨1, Rn4, rfl, ⟨hR.symm.trans eR, hI5, hs6, hx7, h08, hbl9, (fun n hn h => ⟨wy_up (show WY n Rn4 by rw [eRn4]; exact h) (Nat.le_succ n), Or.inr (show WY n Rn4 by rw [eRn4]; exact h)⟩), (Or.inr rfl)⟩, by rw [ht]; exact hP, hD⟩, hS.F ht⟩) hS.2.2 dX6_goes_86
        · rw [if_pos c34] at hR
          refine lv_aload_n hx hb dX6_goes_57 rfl (lv_at hl 1 rfl) ?_
          refine va_get (D := (dC, dI)) (ci := 6) (v := .ref (a 5)) (C := RX6) (T := TX6) (N := 15) hx hb hts hin6 hown hK hP 0 rfl rfl 9 (by decide) (hts (.fieldLink RX6 22 "FeedDeskModel" "way" "[I") (List.mem_of_getElem? (i := 1) rfl)) (fun _ h9 => h9) rfl dX6_goes_58 ?_
          refine lv_aload_n hx hb dX6_goes_61 rfl (lv_at hl 1 rfl) ?_
          refine va_get (D := (dC, dI)) (ci := 6) (v := .int (Rn4 6 5)) (C := RX6) (T := TX6) (N := 15) hx hb hts hin6 hown hK hP 0 rfl rfl 11 (by decide) (hts (.fieldLink RX6 181 "FeedDeskModel" "wayLength" "I") (List.mem_of_getElem? (i := 2) rfl)) (fun _ h9 => h9) rfl dX6_goes_62 ?_
          refine lv_aload_n hx hb dX6_goes_65 rfl (lv_at hl 1 rfl) ?_
          refine va_get (D := (dC, dI)) (ci := 6) (v := .ref (a 1)) (C := RX6) (T := TX6) (N := 15) hx hb hts hin6 hown hK hP 0 rfl rfl 1 (by decide) (hts (.fieldLink RX6 7 "FeedDeskModel" "s" "[I") (List.mem_of_getElem? (i := 4) rfl)) (fun _ h9 => h9) rfl dX6_goes_66 ?_
          refine lv_bipush (v := 84) hx hb dX6_goes_69 (by decide) ?_
          refine lv_iload_n hx hb dX6_goes_71 rfl (lv_at hl 2 rfl) ?_
          refine lv_iadd hx hb dX6_goes_72 ?_
          refine va_iald (f := Rn4 0) hx hb hK hP 1 0 rfl rfl (by rw [ep1]; exact vp_of_B (ix_16 ip1 hip1)) dX6_goes_73 ?_
          refine va_iast (f := Rn4 4) hx hb hK hP hD hS 5 0 rfl rfl (wy_in (ol11 c34)) dX6_goes_74 (fun H35 locs hP hD hS => ?_)
          have hP : va_P (dC, dI) vwCl (cMd a cI (sU Rn4 4 (Rn4 6 5).toNatClampNeg (Rn4 0 (84 + p1).toNatClampNeg))) H35 := hP
          have hD : va_D (va_A (cMd a cI R) s.heap.size) (cMd a cI (sU Rn4 4 (Rn4 6 5).toNatClampNeg (Rn4 0 (84 + p1).toNatClampNeg))) := hD
          obtain ⟨Rn36, eRn36⟩ : ∃ z : SR, z = sU Rn4 4 (Rn4 6 5).toNatClampNeg (Rn4 0 (84 + p1).toNatClampNeg) := ⟨_, rfl⟩
          rw [sLet_eq, ← eRn36] at hR
          rw [← eRn36] at hP hD
          have hI37 : RA Rn36 := (by rw [eRn36]; exact hI5)
          have hs38 : RS Rn36 := (by rw [eRn36]; exact hs6)
          have hx39 : FX R Rn36 := (by rw [eRn36]; exact hx7)
          have h040 : Rn36 0 = R 0 := (by rw [eRn36]; exact h08)
          have hbl41 : BL Rn36 := (by rw [eRn36]; exact hbl9)
          refine lv_aload_n hx hb dX6_goes_75 rfl (lv_at hl 1 rfl) ?_
          refine lv_dup hx hb dX6_goes_76 rfl ?_
          refine va_get (D := (dC, dI)) (ci := 6) (v := .int (Rn36 6 5)) (C := RX6) (T := TX6) (N := 15) hx hb hts hin6 hown hK hP 0 rfl rfl 11 (by decide) (hts (.fieldLink RX6 181 "FeedDeskModel" "wayLength" "I") (List.mem_of_getElem? (i := 2) rfl)) (fun _ h9 => h9) rfl dX6_goes_77 ?_
          refine lv_iconst (v := 1) hx hb dX6_goes_80 (by decide) ?_
          refine lv_iadd hx hb dX6_goes_81 ?_
          refine va_put (D := (dC, dI)) (ci := 6) (v := .int ((Rn36 6 5) + 1)) (ty := .int) (C := RX6) (T := TX6) (N := 15) hx hb hts hin6 tyX6 tyX6_ok nmX6 hown hK hP hD hS 0 rfl rfl 11 (by decide) (hts (.fieldLink RX6 181 "FeedDeskModel" "wayLength" "I") (List.mem_of_getElem? (i := 2) rfl)) (fun _ h9 => h9) rfl (by decide +kernel) rfl rfl (Nat.le_of_ble_eq_true rfl) dX6_goes_82 (fun H44 locs hP hD hS => ?_)
          have hP : va_P (dC, dI) vwCl (cMd a cI (sU Rn36 6 5 ((Rn36 6 5) + 1))) H44 := hP
          have hD : va_D (va_A (cMd a cI R) s.heap.size) (cMd a cI (sU Rn36 6 5 ((Rn36 6 5) + 1))) := hD
          obtain ⟨Rn45, eRn45⟩ : ∃ z : SR, z = sU Rn36 6 5 ((Rn36 6 5) + 1) := ⟨_, rfl⟩
          rw [sLet_eq, ← eRn45] at hR
          rw [← eRn45] at hP hD
          have hI46 : RA Rn45 := (by rw [eRn45]; exact hI37)
          have hs47 : RS Rn45 := (by rw [eRn45]; exact hs38)
          have hx48 : FX R Rn45 := (by rw [eRn45]; exact hx39)
          have h049 : Rn45 0 = R 0 := (by rw [eRn45]; exact h040)
          have hbl50 : BL Rn45 := (by rw [eRn45]; exact hbl41)
          refine lv_iconst (v := 1) hx hb dX6_goes_85 (by decide) ?_
          exact W.zret (v := 1) hx hb hr rfl (fun t ht hWw => ⟨⟨1, Rn45, rfl, ⟨hR.symm.trans eR, hI46, hs47, hx48, h049, hbl50, (fun n hn h => ⟨by rw [eRn45, eRn36]; exact wy_push hn (show WY n Rn4 by rw [eRn4]; exact h) (ra_get hI5 h1 c33), Or.inl c34⟩), (Or.inr rfl)⟩, by rw [ht]; exact hP, hD⟩, hS.F ht⟩) hS.2.2 dX6_goes_86
      · rw [if_pos c33] at hR
        refine lv_iconst (v := 0) hx hb dX6_goes_51 (by decide) ?_
        exact W.zret (v := 0) hx hb hr rfl (fun t ht hWw => ⟨⟨0, Rn4, rfl, ⟨hR.symm.trans eR, hI5, hs6, hx7, h08, hbl9, (fun n hn h => ⟨wy_up (show WY n Rn4 by rw [eRn4]; exact h) (Nat.le_succ n), Or.inr (show WY n Rn4 by rw [eRn4]; exact h)⟩), (Or.inl rfl)⟩, by rw [ht]; exact hP, hD⟩, hS.F ht⟩) hS.2.2 dX6_goes_52
abbrev rm_X6_isBetter : Room := { frames := 0, cells := 0, slots := 0, locals := 0 }
def f_X6_isBetter_p44 (R : SR)  : Nat → Int32 → Int32
  | 0, _ => 0
  | n_44 + 1, x1_44 => (if (R 6 5) ≤ x1_44 then 0 else (if (R 4 x1_44.toNatClampNeg) = (R 5 x1_44.toNatClampNeg) then (f_X6_isBetter_p44 R n_44) (x1_44 + 1) else (if (R 5 x1_44.toNatClampNeg) ≤ (R 4 x1_44.toNatClampNeg) then 0 else 1)))
def f_X6_isBetter (R : SR)  : Int32 := (if (R 6 7) = 0 then (if (R 6 7) = 0 then 1 else (if (R 6 7) ≤ (R 6 5) then 0 else 1)) else (if (R 6 5) = (R 6 7) then f_X6_isBetter_p44 R ((R 6 5).toNatClampNeg + 1) 0 else (if (R 6 7) = 0 then 1 else (if (R 6 7) ≤ (R 6 5) then 0 else 1))))
set_option maxHeartbeats 4000000 in
set_option maxRecDepth 100000 in
theorem c_X6_isBetter (l : Launch) (dC : Nat → ClassId) (dI : Nat → Nat → Nat) (cI cC cS : ClassId) (a : Nat → Nat) (R : SR) (sz : Nat)  (hw : WY 4 R) : Met l yX6_isBetter wsX6_isBetter rm_X6_isBetter (PcG (dC, dI) (tyL cI cC cS) (cMd a cI R) sz [.ref (a 0)]) (va_Qi (fun (r : Int32) (_ : Unit) => r = f_X6_isBetter R ∧ (r = 0 ∨ r = 1)) (fun _ _ => True) (va_A [] sz)) 0 0 (va_A [] sz) := by
  refine Met.ofW (cc := cX6_isBetter) (maxL := 2) (ret := (some .boolean)) (by decide) rfl ?_
  intro p e s m args below meth c s₁ B hml hv
  obtain ⟨rfl, hsz, hP, hK, hD0, hN⟩ := hv
  have hx := B.exec
  have hb := B.bytes
  have hr := B.returns
  have hts := atoms_spec (ws := wsX6_isBetter) B.pre
  have hown : s.vm.findClass RX6 = some m.cls := findClass_of_methodNamed B.named
  have hlocks := B.notSynchronized
  subst hsz
  have hA : ∀ q : Nat, s.heap.size ≤ q → (va_A [] s.heap.size) q := fun q h => Or.inr h
  have hS : va_S (va_A [] s.heap.size) s.heap s.heap [] := va_S.rf
  have hin6 : ∀ w ∈ wsX60, w ∈ wsX6_isBetter := fun _ h => List.mem_cons_of_mem _ (List.mem_append_right _ h)
  obtain ⟨w0, hw1, hw2, hw3, hw4⟩ := id hw
  have hw5 : w0 < 5 := by omega
  have hl := lv_entry [.ref (a 0)] (n := 2) (Nat.le_of_ble_eq_true rfl)
  rw [lg_entry_eq]
  generalize (lg_sl [.ref (a 0)] ++ List.replicate (2 - (lg_sl [.ref (a 0)]).length) Slot.unset).toArray = ls at hl ⊢
  have hl : lv_has ls 2 [(0, .ref (a 0))] := hl
  obtain ⟨R0, eR⟩ : ∃ z, z = f_X6_isBetter R := ⟨_, rfl⟩
  have hR := eR
  rw [f_X6_isBetter] at hR
  refine lv_aload_n hx hb dX6_isBetter_0 rfl (lv_at hl 0 rfl) ?_
  refine va_get (D := (dC, dI)) (ci := 6) (v := .int (R 6 7)) (C := RX6) (T := TX6) (N := 15) hx hb hts hin6 hown hK hP 0 rfl rfl 13 (by decide) (hts (.fieldLink RX6 187 "FeedDeskModel" "bestLength" "I") (List.mem_of_getElem? (i := 1) rfl)) (fun _ h9 => h9) rfl dX6_isBetter_1 ?_
  refine lv_if_eq (tgt := 18) hx hb dX6_isBetter_4 (by decide) (fun c1 => ?_) (fun c1 => ?_)
  · rw [if_pos c1] at hR
    refine lv_aload_n hx hb dX6_isBetter_18 rfl (lv_at hl 0 rfl) ?_
    refine va_get (D := (dC, dI)) (ci := 6) (v := .int (R 6 7)) (C := RX6) (T := TX6) (N := 15) hx hb hts hin6 hown hK hP 0 rfl rfl 13 (by decide) (hts (.fieldLink RX6 187 "FeedDeskModel" "bestLength" "I") (List.mem_of_getElem? (i := 1) rfl)) (fun _ h9 => h9) rfl dX6_isBetter_19 ?_
    refine lv_if_eq (tgt := 36) hx hb dX6_isBetter_22 (by decide) (fun c2 => ?_) (fun c2 => ?_)
    · rw [if_pos c2] at hR
      refine lv_iconst (v := 1) hx hb dX6_isBetter_36 (by decide) ?_
      refine lv_goto (tgt := 41) hx hb dX6_isBetter_37 (by decide) ?_
      exact W.zret (v := 1) hx hb hr rfl (fun t ht hWw => ⟨⟨1, (), rfl, ⟨hR.symm.trans eR, (Or.inr rfl)⟩, trivial⟩, hS.F ht⟩) hS.2.2 dX6_isBetter_41
    · rw [if_neg c2] at hR
      refine lv_aload_n hx hb dX6_isBetter_25 rfl (lv_at hl 0 rfl) ?_
      refine va_get (D := (dC, dI)) (ci := 6) (v := .int (R 6 5)) (C := RX6) (T := TX6) (N := 15) hx hb hts hin6 hown hK hP 0 rfl rfl 11 (by decide) (hts (.fieldLink RX6 181 "FeedDeskModel" "wayLength" "I") (List.mem_of_getElem? (i := 2) rfl)) (fun _ h9 => h9) rfl dX6_isBetter_26 ?_
      refine lv_aload_n hx hb dX6_isBetter_29 rfl (lv_at hl 0 rfl) ?_
      refine va_get (D := (dC, dI)) (ci := 6) (v := .int (R 6 7)) (C := RX6) (T := TX6) (N := 15) hx hb hts hin6 hown hK hP 0 rfl rfl 13 (by decide) (hts (.fieldLink RX6 187 "FeedDeskModel" "bestLength" "I") (List.mem_of_getElem? (i := 1) rfl)) (fun _ h9 => h9) rfl dX6_isBetter_30 ?_
      refine lv_icmp_ge (tgt := 40) hx hb dX6_isBetter_33 (by decide) (fun c3 => ?_) (fun c3 => ?_)
      · rw [if_pos c3] at hR
        refine lv_iconst (v := 0) hx hb dX6_isBetter_40 (by decide) ?_
        exact W.zret (v := 0) hx hb hr rfl (fun t ht hWw => ⟨⟨0, (), rfl, ⟨hR.symm.trans eR, (Or.inl rfl)⟩, trivial⟩, hS.F ht⟩) hS.2.2 dX6_isBetter_41
      · rw [if_neg c3] at hR
        refine lv_iconst (v := 1) hx hb dX6_isBetter_36 (by decide) ?_
        refine lv_goto (tgt := 41) hx hb dX6_isBetter_37 (by decide) ?_
        exact W.zret (v := 1) hx hb hr rfl (fun t ht hWw => ⟨⟨1, (), rfl, ⟨hR.symm.trans eR, (Or.inr rfl)⟩, trivial⟩, hS.F ht⟩) hS.2.2 dX6_isBetter_41
  · rw [if_neg c1] at hR
    refine lv_aload_n hx hb dX6_isBetter_7 rfl (lv_at hl 0 rfl) ?_
    refine va_get (D := (dC, dI)) (ci := 6) (v := .int (R 6 5)) (C := RX6) (T := TX6) (N := 15) hx hb hts hin6 hown hK hP 0 rfl rfl 11 (by decide) (hts (.fieldLink RX6 181 "FeedDeskModel" "wayLength" "I") (List.mem_of_getElem? (i := 2) rfl)) (fun _ h9 => h9) rfl dX6_isBetter_8 ?_
    refine lv_aload_n hx hb dX6_isBetter_11 rfl (lv_at hl 0 rfl) ?_
    refine va_get (D := (dC, dI)) (ci := 6) (v := .int (R 6 7)) (C := RX6) (T := TX6) (N := 15) hx hb hts hin6 hown hK hP 0 rfl rfl 13 (by decide) (hts (.fieldLink RX6 187 "FeedDeskModel" "bestLength" "I") (List.mem_of_getElem? (i := 1) rfl)) (fun _ h9 => h9) rfl dX6_isBetter_12 ?_
    refine lv_icmp_eq (tgt := 42) hx hb dX6_isBetter_15 (by decide) (fun c4 => ?_) (fun c4 => ?_)
    · rw [if_pos c4] at hR
      refine lv_iconst (v := 0) hx hb dX6_isBetter_42 (by decide) ?_
      refine lv_istore_n (lv' := [(1, .int 0), (0, .ref (a 0))]) hx hb dX6_isBetter_43 rfl hl (by decide) rfl (fun ls hl => ?_)
      have hL_44 : ∀ n_44 : Nat, ∀ (j_44 : Nat), ∀ (x1_44 : Int32) , x1_44 = nI j_44 → j_44 ≤ w0 → w0 < j_44 + n_44 → R0 = f_X6_isBetter_p44 R n_44 x1_44 → ∀ (H : Heap) (locs : List Loc) (ls : Array Slot), va_P (dC, dI) vwCl (cMd a cI R) H → va_S (va_A [] s.heap.size) s.heap H locs → lv_has ls 2 [(0, .ref (a 0)), (1, .int x1_44)] → W p l e (headSpec wsX6_isBetter rm_X6_isBetter).room s m ([.ref (a 0)] : List Value).toArray below meth c H locs 0 0 (MQ below (va_Qi (fun (r : Int32) (_ : Unit) => r = f_X6_isBetter R ∧ (r = 0 ∨ r = 1)) (fun _ _ => True) (va_A [] s.heap.size)) ([.ref (a 0)] : List Value).toArray s 0 0 (va_A [] s.heap.size)) (F0 m 44 ls []) := by
        intro n_44
        induction n_44 with
        | zero =>
          intro j_44 x1_44 ex1_44 hj0_44 hn_44
          exact absurd hn_44 (by omega)
        | succ n_44 ih_44 =>
          intro j_44 x1_44 ex1_44 hj0_44 hn_44 hR H locs ls hP hS hl
          rw [f_X6_isBetter_p44] at hR
          refine lv_iload_n hx hb dX6_isBetter_44 rfl (lv_at hl 1 rfl) ?_
          refine lv_aload_n hx hb dX6_isBetter_45 rfl (lv_at hl 0 rfl) ?_
          refine va_get (D := (dC, dI)) (ci := 6) (v := .int (R 6 5)) (C := RX6) (T := TX6) (N := 15) hx hb hts hin6 hown hK hP 0 rfl rfl 11 (by decide) (hts (.fieldLink RX6 181 "FeedDeskModel" "wayLength" "I") (List.mem_of_getElem? (i := 2) rfl)) (fun _ h9 => h9) rfl dX6_isBetter_46 ?_
          refine lv_icmp_ge (tgt := 94) hx hb dX6_isBetter_49 (by decide) (fun c5 => ?_) (fun c5 => ?_)
          · rw [if_pos c5] at hR
            refine lv_iconst (v := 0) hx hb dX6_isBetter_94 (by decide) ?_
            exact W.zret (v := 0) hx hb hr rfl (fun t ht hWw => ⟨⟨0, (), rfl, ⟨hR.symm.trans eR, (Or.inl rfl)⟩, trivial⟩, hS.F ht⟩) hS.2.2 dX6_isBetter_95
          · rw [if_neg c5] at hR
            have hj_44 : j_44 < w0 := lp_ge ex1_44 hw3 (by omega) (by omega) c5
            refine lv_aload_n hx hb dX6_isBetter_52 rfl (lv_at hl 0 rfl) ?_
            refine va_get (D := (dC, dI)) (ci := 6) (v := .ref (a 5)) (C := RX6) (T := TX6) (N := 15) hx hb hts hin6 hown hK hP 0 rfl rfl 9 (by decide) (hts (.fieldLink RX6 22 "FeedDeskModel" "way" "[I") (List.mem_of_getElem? (i := 3) rfl)) (fun _ h9 => h9) rfl dX6_isBetter_53 ?_
            refine lv_iload_n hx hb dX6_isBetter_56 rfl (lv_at hl 1 rfl) ?_
            refine va_iald (f := R 4) hx hb hK hP 5 0 rfl rfl (wy_ix ex1_44 hj_44 hw2) dX6_isBetter_57 ?_
            refine lv_aload_n hx hb dX6_isBetter_58 rfl (lv_at hl 0 rfl) ?_
            refine va_get (D := (dC, dI)) (ci := 6) (v := .ref (a 6)) (C := RX6) (T := TX6) (N := 15) hx hb hts hin6 hown hK hP 0 rfl rfl 10 (by decide) (hts (.fieldLink RX6 25 "FeedDeskModel" "best" "[I") (List.mem_of_getElem? (i := 4) rfl)) (fun _ h9 => h9) rfl dX6_isBetter_59 ?_
            refine lv_iload_n hx hb dX6_isBetter_62 rfl (lv_at hl 1 rfl) ?_
            refine va_iald (f := R 5) hx hb hK hP 6 0 rfl rfl (wy_ix ex1_44 hj_44 hw2) dX6_isBetter_63 ?_
            refine lv_icmp_eq (tgt := 88) hx hb dX6_isBetter_64 (by decide) (fun c6 => ?_) (fun c6 => ?_)
            · rw [if_pos c6] at hR
              refine lv_iinc (v := x1_44 + 1) (lv' := [(1, .int (x1_44 + 1)), (0, .ref (a 0))]) hx hb dX6_isBetter_88 hl (k := 1) rfl rfl (by decide) rfl (fun ls hl => ?_)
              refine lv_goto (tgt := 44) hx hb dX6_isBetter_91 (by decide) ?_
              exact ih_44 (j_44 + 1) (x1_44 + 1) (by rw [ex1_44, nI_1]) (by omega) (by omega) hR _ _ _ hP hS (lv_sub hl [1, 0] rfl)
            · rw [if_neg c6] at hR
              refine lv_aload_n hx hb dX6_isBetter_67 rfl (lv_at hl 0 rfl) ?_
              refine va_get (D := (dC, dI)) (ci := 6) (v := .ref (a 5)) (C := RX6) (T := TX6) (N := 15) hx hb hts hin6 hown hK hP 0 rfl rfl 9 (by decide) (hts (.fieldLink RX6 22 "FeedDeskModel" "way" "[I") (List.mem_of_getElem? (i := 3) rfl)) (fun _ h9 => h9) rfl dX6_isBetter_68 ?_
              refine lv_iload_n hx hb dX6_isBetter_71 rfl (lv_at hl 1 rfl) ?_
              refine va_iald (f := R 4) hx hb hK hP 5 0 rfl rfl (wy_ix ex1_44 hj_44 hw2) dX6_isBetter_72 ?_
              refine lv_aload_n hx hb dX6_isBetter_73 rfl (lv_at hl 0 rfl) ?_
              refine va_get (D := (dC, dI)) (ci := 6) (v := .ref (a 6)) (C := RX6) (T := TX6) (N := 15) hx hb hts hin6 hown hK hP 0 rfl rfl 10 (by decide) (hts (.fieldLink RX6 25 "FeedDeskModel" "best" "[I") (List.mem_of_getElem? (i := 4) rfl)) (fun _ h9 => h9) rfl dX6_isBetter_74 ?_
              refine lv_iload_n hx hb dX6_isBetter_77 rfl (lv_at hl 1 rfl) ?_
              refine va_iald (f := R 5) hx hb hK hP 6 0 rfl rfl (wy_ix ex1_44 hj_44 hw2) dX6_isBetter_78 ?_
              refine lv_icmp_ge (tgt := 86) hx hb dX6_isBetter_79 (by decide) (fun c7 => ?_) (fun c7 => ?_)
              · rw [if_pos c7] at hR
                refine lv_iconst (v := 0) hx hb dX6_isBetter_86 (by decide) ?_
                exact W.zret (v := 0) hx hb hr rfl (fun t ht hWw => ⟨⟨0, (), rfl, ⟨hR.symm.trans eR, (Or.inl rfl)⟩, trivial⟩, hS.F ht⟩) hS.2.2 dX6_isBetter_87
              · rw [if_neg c7] at hR
                refine lv_iconst (v := 1) hx hb dX6_isBetter_82 (by decide) ?_
                refine lv_goto (tgt := 87) hx hb dX6_isBetter_83 (by decide) ?_
                exact W.zret (v := 1) hx hb hr rfl (fun t ht hWw => ⟨⟨1, (), rfl, ⟨hR.symm.trans eR, (Or.inr rfl)⟩, trivial⟩, hS.F ht⟩) hS.2.2 dX6_isBetter_87
      exact hL_44 ((R 6 5).toNatClampNeg + 1) 0 0 (by decide +kernel) (Nat.zero_le _) (by rw [hw3, nI_clamp (by omega)]; omega) hR _ _ _ hP hS (lv_sub hl [1, 0] rfl)
    · rw [if_neg c4] at hR
      refine lv_aload_n hx hb dX6_isBetter_18 rfl (lv_at hl 0 rfl) ?_
      refine va_get (D := (dC, dI)) (ci := 6) (v := .int (R 6 7)) (C := RX6) (T := TX6) (N := 15) hx hb hts hin6 hown hK hP 0 rfl rfl 13 (by decide) (hts (.fieldLink RX6 187 "FeedDeskModel" "bestLength" "I") (List.mem_of_getElem? (i := 1) rfl)) (fun _ h9 => h9) rfl dX6_isBetter_19 ?_
      refine lv_if_eq (tgt := 36) hx hb dX6_isBetter_22 (by decide) (fun c8 => ?_) (fun c8 => ?_)
      · rw [if_pos c8] at hR
        refine lv_iconst (v := 1) hx hb dX6_isBetter_36 (by decide) ?_
        refine lv_goto (tgt := 41) hx hb dX6_isBetter_37 (by decide) ?_
        exact W.zret (v := 1) hx hb hr rfl (fun t ht hWw => ⟨⟨1, (), rfl, ⟨hR.symm.trans eR, (Or.inr rfl)⟩, trivial⟩, hS.F ht⟩) hS.2.2 dX6_isBetter_41
      · rw [if_neg c8] at hR
        refine lv_aload_n hx hb dX6_isBetter_25 rfl (lv_at hl 0 rfl) ?_
        refine va_get (D := (dC, dI)) (ci := 6) (v := .int (R 6 5)) (C := RX6) (T := TX6) (N := 15) hx hb hts hin6 hown hK hP 0 rfl rfl 11 (by decide) (hts (.fieldLink RX6 181 "FeedDeskModel" "wayLength" "I") (List.mem_of_getElem? (i := 2) rfl)) (fun _ h9 => h9) rfl dX6_isBetter_26 ?_
        refine lv_aload_n hx hb dX6_isBetter_29 rfl (lv_at hl 0 rfl) ?_
        refine va_get (D := (dC, dI)) (ci := 6) (v := .int (R 6 7)) (C := RX6) (T := TX6) (N := 15) hx hb hts hin6 hown hK hP 0 rfl rfl 13 (by decide) (hts (.fieldLink RX6 187 "FeedDeskModel" "bestLength" "I") (List.mem_of_getElem? (i := 1) rfl)) (fun _ h9 => h9) rfl dX6_isBetter_30 ?_
        refine lv_icmp_ge (tgt := 40) hx hb dX6_isBetter_33 (by decide) (fun c9 => ?_) (fun c9 => ?_)
        · rw [if_pos c9] at hR
          refine lv_iconst (v := 0) hx hb dX6_isBetter_40 (by decide) ?_
          exact W.zret (v := 0) hx hb hr rfl (fun t ht hWw => ⟨⟨0, (), rfl, ⟨hR.symm.trans eR, (Or.inl rfl)⟩, trivial⟩, hS.F ht⟩) hS.2.2 dX6_isBetter_41
        · rw [if_neg c9] at hR
          refine lv_iconst (v := 1) hx hb dX6_isBetter_36 (by decide) ?_
          refine lv_goto (tgt := 41) hx hb dX6_isBetter_37 (by decide) ?_
          exact W.zret (v := 1) hx hb hr rfl (fun t ht hWw => ⟨⟨1, (), rfl, ⟨hR.symm.trans eR, (Or.inr rfl)⟩, trivial⟩, hS.F ht⟩) hS.2.2 dX6_isBetter_41
abbrev rm_X6_tries : Room := { frames := 5, cells := 0, slots := 0, locals := 111 }
def f_X6_tries_p106 (p1 : Int32) (p2 : Int32) (p3 : Int32) (p4 : Int32) (p5 : Int32)  : Nat → Int32 → SR → SR
  | 0, _, R_106 => R_106
  | n_106 + 1, x6_106, R_106 => (if (R_106 6 5) ≤ x6_106 then R_106 else sLet (sU R_106 5 x6_106.toNatClampNeg (R_106 4 x6_106.toNatClampNeg)) (fun Rn88 : SR => (f_X6_tries_p106 p1 p2 p3 p4 p5 n_106) (x6_106 + 1) Rn88))
def f_X6_tries_p62 (p1 : Int32) (p2 : Int32) (p3 : Int32) (p4 : Int32) (p5 : Int32)    (R_62 : SR) : SR := sLet ((f_X6_goes R_62 p5 1).2) (fun Rn44 : SR => (if ((f_X6_goes R_62 p5 1).1) = 0 then Rn44 else sLet (sU Rn44 6 8 (f_X6_more (Rn44 6 8) (Rn44 6 6))) (fun Rn61 : SR => (if (f_X6_isBetter Rn61) = 0 then Rn61 else sLet (sU Rn61 6 7 (Rn61 6 5)) (fun Rn76 : SR => f_X6_tries_p106 p1 p2 p3 p4 p5 5 0 Rn76)))))
def f_X6_tries_p46 (p1 : Int32) (p2 : Int32) (p3 : Int32) (p4 : Int32) (p5 : Int32)    (R_46 : SR) : SR := (if 4 ≤ p4 then f_X6_tries_p62 p1 p2 p3 p4 p5 R_46 else sLet ((f_X6_goes R_46 p4 0).2) (fun Rn109 : SR => (if ((f_X6_goes R_46 p4 0).1) = 0 then Rn109 else f_X6_tries_p62 p1 p2 p3 p4 p5 Rn109)))
def f_X6_tries_p32 (p1 : Int32) (p2 : Int32) (p3 : Int32) (p4 : Int32) (p5 : Int32)    (R_32 : SR) : SR := (if 4 ≤ p3 then f_X6_tries_p46 p1 p2 p3 p4 p5 R_32 else sLet ((f_X6_goes R_32 p3 0).2) (fun Rn133 : SR => (if ((f_X6_goes R_32 p3 0).1) = 0 then Rn133 else f_X6_tries_p46 p1 p2 p3 p4 p5 Rn133)))
def f_X6_tries (R : SR) (p1 : Int32) (p2 : Int32) (p3 : Int32) (p4 : Int32) (p5 : Int32) : SR := sLet (sU R 4 0 p1) (fun Rn2 : SR => sLet (sU Rn2 6 5 1) (fun Rn13 : SR => sLet (sU Rn13 6 6 100) (fun Rn25 : SR => (if 4 ≤ p2 then f_X6_tries_p32 p1 p2 p3 p4 p5 Rn25 else sLet ((f_X6_goes Rn25 p2 0).2) (fun Rn157 : SR => (if ((f_X6_goes Rn25 p2 0).1) = 0 then Rn157 else f_X6_tries_p32 p1 p2 p3 p4 p5 Rn157))))))
set_option maxHeartbeats 4000000 in
set_option maxRecDepth 100000 in
theorem c_X6_tries (l : Launch) (dC : Nat → ClassId) (dI : Nat → Nat → Nat) (cI cC cS : ClassId) (a : Nat → Nat) (R : SR) (sz : Nat) (p1 : Int32) (p2 : Int32) (p3 : Int32) (p4 : Int32) (p5 : Int32) (h1 : vp_in p1 12) (h2 : vp_in p2 5) (h3 : vp_in p3 5) (h4 : vp_in p4 5) (h5 : vp_in p5 4) (hI : RA R) (hs : RS R) (hbl : BL R) : Met l yX6_tries wsX6_tries rm_X6_tries (PcG (dC, dI) (tyL cI cC cS) (cMd a cI R) sz [.ref (a 0), .int p1, .int p2, .int p3, .int p4, .int p5]) (va_Qv (fun (u : SR) => u = f_X6_tries R p1 p2 p3 p4 p5 ∧ (RA u) ∧ (RS u) ∧ (FX R u) ∧ (u 0 = R 0) ∧ (BL u)) (fun u U => va_P (dC, dI) vwCl (cMd a cI u) U.heap ∧ va_D (va_A (cMd a cI R) sz) (cMd a cI u)) (va_A (cMd a cI R) sz)) 0 0 (va_A (cMd a cI R) sz) := by
  refine Met.ofW (cc := cX6_tries) (maxL := 7) (ret := none) (by decide) rfl ?_
  intro p e s m args below meth c s₁ B hml hv
  obtain ⟨rfl, hsz, hP, hK, hD0, hN⟩ := hv
  have hx := B.exec
  have hb := B.bytes
  have hr := B.returns
  have hts := atoms_spec (ws := wsX6_tries) B.pre
  have hown : s.vm.findClass RX6 = some m.cls := findClass_of_methodNamed B.named
  have hlocks := B.notSynchronized
  subst hsz
  have hD := hD0.self (sz := s.heap.size)
  have hA : ∀ q : Nat, s.heap.size ≤ q → (va_A (cMd a cI R) s.heap.size) q := fun q h => Or.inr h
  have hS : va_S (va_A (cMd a cI R) s.heap.size) s.heap s.heap [] := va_S.rf
  have hin6 : ∀ w ∈ wsX60, w ∈ wsX6_tries := fun _ h => List.mem_cons_of_mem _ (List.mem_append_right _ h)
  obtain ⟨ip2, hip2, ep2⟩ := vp_in_of h2 (by decide)
  obtain ⟨ip3, hip3, ep3⟩ := vp_in_of h3 (by decide)
  obtain ⟨ip4, hip4, ep4⟩ := vp_in_of h4 (by decide)
  have hx_0 : FX R R := fx_rf
  have h0_0 : R 0 = R 0 := rfl
  have hl := lv_entry [.ref (a 0), .int p1, .int p2, .int p3, .int p4, .int p5] (n := 7) (Nat.le_of_ble_eq_true rfl)
  rw [lg_entry_eq]
  generalize (lg_sl [.ref (a 0), .int p1, .int p2, .int p3, .int p4, .int p5] ++ List.replicate (7 - (lg_sl [.ref (a 0), .int p1, .int p2, .int p3, .int p4, .int p5]).length) Slot.unset).toArray = ls at hl ⊢
  have hl : lv_has ls 7 [(0, .ref (a 0)), (1, .int p1), (2, .int p2), (3, .int p3), (4, .int p4), (5, .int p5)] := hl
  obtain ⟨R0, eR⟩ : ∃ z, z = f_X6_tries R p1 p2 p3 p4 p5 := ⟨_, rfl⟩
  have hR := eR
  rw [f_X6_tries] at hR
  refine lv_aload_n hx hb dX6_tries_0 rfl (lv_at hl 0 rfl) ?_
  refine va_get (D := (dC, dI)) (ci := 6) (v := .ref (a 5)) (C := RX6) (T := TX6) (N := 15) hx hb hts hin6 hown hK hP 0 rfl rfl 9 (by decide) (hts (.fieldLink RX6 22 "FeedDeskModel" "way" "[I") (List.mem_of_getElem? (i := 1) rfl)) (fun _ h9 => h9) rfl dX6_tries_1 ?_
  refine lv_iconst (v := 0) hx hb dX6_tries_4 (by decide) ?_
  refine lv_iload_n hx hb dX6_tries_5 rfl (lv_at hl 1 rfl) ?_
  refine va_iast (f := R 4) hx hb hK hP hD hS 5 0 rfl rfl (vp_of_B (by decide +kernel : vp_okB (0) 4 = true)) dX6_tries_6 (fun H1 locs hP hD hS => ?_)
  have hP : va_P (dC, dI) vwCl (cMd a cI (sU R 4 0 p1)) H1 := hP
  have hD : va_D (va_A (cMd a cI R) s.heap.size) (cMd a cI (sU R 4 0 p1)) := hD
  obtain ⟨Rn2, eRn2⟩ : ∃ z : SR, z = sU R 4 0 p1 := ⟨_, rfl⟩
  rw [sLet_eq, ← eRn2] at hR
  rw [← eRn2] at hP hD
  have hI3 : RA Rn2 := (by rw [eRn2]; exact hI)
  have hs4 : RS Rn2 := (by rw [eRn2]; exact hs)
  have hx5 : FX R Rn2 := (by rw [eRn2]; exact hx_0)
  have h06 : Rn2 0 = R 0 := (by rw [eRn2]; exact h0_0)
  have hbl7 : BL Rn2 := (by rw [eRn2]; exact hbl)
  refine lv_aload_n hx hb dX6_tries_7 rfl (lv_at hl 0 rfl) ?_
  refine lv_iconst (v := 1) hx hb dX6_tries_8 (by decide) ?_
  refine va_put (D := (dC, dI)) (ci := 6) (v := .int 1) (ty := .int) (C := RX6) (T := TX6) (N := 15) hx hb hts hin6 tyX6 tyX6_ok nmX6 hown hK hP hD hS 0 rfl rfl 11 (by decide) (hts (.fieldLink RX6 181 "FeedDeskModel" "wayLength" "I") (List.mem_of_getElem? (i := 2) rfl)) (fun _ h9 => h9) rfl (by decide +kernel) rfl rfl (Nat.le_of_ble_eq_true rfl) dX6_tries_9 (fun H12 locs hP hD hS => ?_)
  have hP : va_P (dC, dI) vwCl (cMd a cI (sU Rn2 6 5 1)) H12 := hP
  have hD : va_D (va_A (cMd a cI R) s.heap.size) (cMd a cI (sU Rn2 6 5 1)) := hD
  obtain ⟨Rn13, eRn13⟩ : ∃ z : SR, z = sU Rn2 6 5 1 := ⟨_, rfl⟩
  rw [sLet_eq, ← eRn13] at hR
  rw [← eRn13] at hP hD
  have hI14 : RA Rn13 := (by rw [eRn13]; exact hI3)
  have hs15 : RS Rn13 := (by rw [eRn13]; exact hs4)
  have hx16 : FX R Rn13 := (by rw [eRn13]; exact hx5)
  have h017 : Rn13 0 = R 0 := (by rw [eRn13]; exact h06)
  have hbl18 : BL Rn13 := (by rw [eRn13]; exact hbl7)
  have hw23 : WY 1 Rn13 := by rw [eRn13, eRn2]; exact wy_one h1
  refine lv_aload_n hx hb dX6_tries_12 rfl (lv_at hl 0 rfl) ?_
  refine lv_bipush (v := 100) hx hb dX6_tries_13 (by decide) ?_
  refine va_put (D := (dC, dI)) (ci := 6) (v := .int 100) (ty := .int) (C := RX6) (T := TX6) (N := 15) hx hb hts hin6 tyX6 tyX6_ok nmX6 hown hK hP hD hS 0 rfl rfl 12 (by decide) (hts (.fieldLink RX6 184 "FeedDeskModel" "wayGain" "I") (List.mem_of_getElem? (i := 3) rfl)) (fun _ h9 => h9) rfl (by decide +kernel) rfl rfl (Nat.le_of_ble_eq_true rfl) dX6_tries_15 (fun H24 locs hP hD hS => ?_)
  have hP : va_P (dC, dI) vwCl (cMd a cI (sU Rn13 6 6 100)) H24 := hP
  have hD : va_D (va_A (cMd a cI R) s.heap.size) (cMd a cI (sU Rn13 6 6 100)) := hD
  obtain ⟨Rn25, eRn25⟩ : ∃ z : SR, z = sU Rn13 6 6 100 := ⟨_, rfl⟩
  rw [sLet_eq, ← eRn25] at hR
  rw [← eRn25] at hP hD
  have hI26 : RA Rn25 := (by rw [eRn25]; exact hI14)
  have hs27 : RS Rn25 := (by rw [eRn25]; exact hs15)
  have hx28 : FX R Rn25 := (by rw [eRn25]; exact hx16)
  have h029 : Rn25 0 = R 0 := (by rw [eRn25]; exact h017)
  have hbl30 : BL Rn25 := (by rw [eRn25]; exact hbl18)
  have ow131 : WY 1 Rn25 := (by rw [eRn25]; exact hw23)
  refine lv_iload_n hx hb dX6_tries_18 rfl (lv_at hl 2 rfl) ?_
  refine lv_iconst (v := 4) hx hb dX6_tries_19 (by decide) ?_
  have hJ_32 : ∀   (R_32 : SR), RA R_32 → RS R_32 → FX R R_32 → R_32 0 = R 0 → BL R_32 → WY 2 R_32 → R0 = f_X6_tries_p32 p1 p2 p3 p4 p5 R_32 → ∀ (H : Heap) (locs : List Loc) (ls : Array Slot), va_P (dC, dI) vwCl (cMd a cI R_32) H → va_D (va_A (cMd a cI R) s.heap.size) (cMd a cI R_32) → va_S (va_A (cMd a cI R) s.heap.size) s.heap H locs → lv_has ls 7 [(0, .ref (a 0)), (1, .int p1), (2, .int p2), (3, .int p3), (4, .int p4), (5, .int p5)] → W p l e (headSpec wsX6_tries rm_X6_tries).room s m ([.ref (a 0), .int p1, .int p2, .int p3, .int p4, .int p5] : List Value).toArray below meth c H locs 0 0 (MQ below (va_Qv (fun (u : SR) => u = f_X6_tries R p1 p2 p3 p4 p5 ∧ (RA u) ∧ (RS u) ∧ (FX R u) ∧ (u 0 = R 0) ∧ (BL u)) (fun u U => va_P (dC, dI) vwCl (cMd a cI u) U.heap ∧ va_D (va_A (cMd a cI R) s.heap.size) (cMd a cI u)) (va_A (cMd a cI R) s.heap.size)) ([.ref (a 0), .int p1, .int p2, .int p3, .int p4, .int p5] : List Value).toArray s 0 0 (va_A (cMd a cI R) s.heap.size)) (F0 m 32 ls []) := by
    intro R_32 hI_32 hs_32 hx_32 h0_32 hbl_32 ow2_32 hR H locs ls hP hD hS hl
    rw [f_X6_tries_p32] at hR
    refine lv_iload_n hx hb dX6_tries_32 rfl (lv_at hl 3 rfl) ?_
    refine lv_iconst (v := 4) hx hb dX6_tries_33 (by decide) ?_
    have hJ_46 : ∀   (R_46 : SR), RA R_46 → RS R_46 → FX R R_46 → R_46 0 = R 0 → BL R_46 → WY 3 R_46 → R0 = f_X6_tries_p46 p1 p2 p3 p4 p5 R_46 → ∀ (H : Heap) (locs : List Loc) (ls : Array Slot), va_P (dC, dI) vwCl (cMd a cI R_46) H → va_D (va_A (cMd a cI R) s.heap.size) (cMd a cI R_46) → va_S (va_A (cMd a cI R) s.heap.size) s.heap H locs → lv_has ls 7 [(0, .ref (a 0)), (1, .int p1), (2, .int p2), (3, .int p3), (4, .int p4), (5, .int p5)] → W p l e (headSpec wsX6_tries rm_X6_tries).room s m ([.ref (a 0), .int p1, .int p2, .int p3, .int p4, .int p5] : List Value).toArray below meth c H locs 0 0 (MQ below (va_Qv (fun (u : SR) => u = f_X6_tries R p1 p2 p3 p4 p5 ∧ (RA u) ∧ (RS u) ∧ (FX R u) ∧ (u 0 = R 0) ∧ (BL u)) (fun u U => va_P (dC, dI) vwCl (cMd a cI u) U.heap ∧ va_D (va_A (cMd a cI R) s.heap.size) (cMd a cI u)) (va_A (cMd a cI R) s.heap.size)) ([.ref (a 0), .int p1, .int p2, .int p3, .int p4, .int p5] : List Value).toArray s 0 0 (va_A (cMd a cI R) s.heap.size)) (F0 m 46 ls []) := by
      intro R_46 hI_46 hs_46 hx_46 h0_46 hbl_46 ow3_46 hR H locs ls hP hD hS hl
      rw [f_X6_tries_p46] at hR
      refine lv_iload hx hb dX6_tries_46 (lv_at hl 4 rfl) ?_
      refine lv_iconst (v := 4) hx hb dX6_tries_48 (by decide) ?_
      have hJ_62 : ∀   (R_62 : SR), RA R_62 → RS R_62 → FX R R_62 → R_62 0 = R 0 → BL R_62 → WY 4 R_62 → R0 = f_X6_tries_p62 p1 p2 p3 p4 p5 R_62 → ∀ (H : Heap) (locs : List Loc) (ls : Array Slot), va_P (dC, dI) vwCl (cMd a cI R_62) H → va_D (va_A (cMd a cI R) s.heap.size) (cMd a cI R_62) → va_S (va_A (cMd a cI R) s.heap.size) s.heap H locs → lv_has ls 7 [(0, .ref (a 0)), (1, .int p1), (2, .int p2), (3, .int p3), (4, .int p4), (5, .int p5)] → W p l e (headSpec wsX6_tries rm_X6_tries).room s m ([.ref (a 0), .int p1, .int p2, .int p3, .int p4, .int p5] : List Value).toArray below meth c H locs 0 0 (MQ below (va_Qv (fun (u : SR) => u = f_X6_tries R p1 p2 p3 p4 p5 ∧ (RA u) ∧ (RS u) ∧ (FX R u) ∧ (u 0 = R 0) ∧ (BL u)) (fun u U => va_P (dC, dI) vwCl (cMd a cI u) U.heap ∧ va_D (va_A (cMd a cI R) s.heap.size) (cMd a cI u)) (va_A (cMd a cI R) s.heap.size)) ([.ref (a 0), .int p1, .int p2, .int p3, .int p4, .int p5] : List Value).toArray s 0 0 (va_A (cMd a cI R) s.heap.size)) (F0 m 62 ls []) := by
        intro R_62 hI_62 hs_62 hx_62 h0_62 hbl_62 ow4_62 hR H locs ls hP hD hS hl
        rw [f_X6_tries_p62] at hR
        refine lv_aload_n hx hb dX6_tries_62 rfl (lv_at hl 0 rfl) ?_
        refine lv_iload hx hb dX6_tries_63 (lv_at hl 5 rfl) ?_
        refine lv_iconst (v := 1) hx hb dX6_tries_65 (by decide) ?_
        have hPc : va_P (dC, dI) vwCl (cMd a cI R_62) H := hP.sub [0, 1, 2, 3, 4, 5, 6] rfl
        have hDc : va_D (va_A (cMd a cI R) s.heap.size) (cMd a cI R_62) := hD.sub [0, 1, 2, 3, 4, 5, 6] (by decide) rfl
        have hFc : ∀ q : Nat, va_A (cMd a cI R_62) H.size q → (va_A (cMd a cI R) s.heap.size) q := va_free hD hS hA [0, 1, 2, 3, 4, 5, 6] rfl
        refine va_calli (va_runV (As := [.int p5, .int 1]) (rest := []) ⟨hx, hb, hml, hown, hts⟩ (c_X6_goes l dC dI cI cC cS a R_62 H.size p5 1 h5 (wy_up ow4_62 (by decide)) (fun h => absurd h (by decide)) hI_62 hs_62 hbl_62) (cwV 2 hts gX6_tries_X6_goes rfl rfl rfl (by decide +kernel) ⟨Nat.le_of_ble_eq_true rfl, Nat.le_of_ble_eq_true rfl⟩) (pV (q0 := 0) hK hPc hDc hN rfl rfl) rfl rfl hl.1 rfl (lv_room (Nat.le_of_ble_eq_true rfl)) dX6_tries_66 ⟨Nat.le_of_ble_eq_true rfl, Nat.le_of_ble_eq_true rfl⟩) hS (fun q _ h => hFc q h) hFc (fun r_35 u_35 t_35 H36 locs ht hvm hw hB hz1 hk1 hS => ?_)
        obtain ⟨hw, hens37, hens38, hens39, hens40, hens41, hens42, hens43⟩ := hw
        obtain ⟨hP1, hD1⟩ := hB
        rw [ht] at hP1
        have hw1 : r_35 = (f_X6_goes R_62 p5 1).1 := congrArg Prod.fst hw
        have hw2 : u_35 = (f_X6_goes R_62 p5 1).2 := congrArg Prod.snd hw
        clear hw
        subst hw1
        subst hw2
        obtain ⟨hP, hD⟩ := va_join (wc := cMd a cI R_62) (wr := []) (w1 := cMd a cI ((f_X6_goes R_62 p5 1).2)) hP hD [0, 1, 2, 3, 4, 5, 6] [] rfl rfl (by decide) (by decide) hk1 hFc hP1 hD1
        have hP : va_P (dC, dI) vwCl (cMd a cI ((f_X6_goes R_62 p5 1).2)) H36 := hP.sub [0, 1, 2, 3, 4, 5, 6] rfl
        have hD : va_D (va_A (cMd a cI R) s.heap.size) (cMd a cI ((f_X6_goes R_62 p5 1).2)) := hD.sub [0, 1, 2, 3, 4, 5, 6] (by decide) rfl
        obtain ⟨Rn44, eRn44⟩ : ∃ z : SR, z = (f_X6_goes R_62 p5 1).2 := ⟨_, rfl⟩
        rw [sLet_eq, ← eRn44] at hR
        rw [← eRn44] at hP hD
        have hI45 : RA Rn44 := by rw [eRn44]; exact hens37
        have hs46 : RS Rn44 := by rw [eRn44]; exact hens38
        have hx47 : FX R Rn44 := (by rw [eRn44]; exact fx_tr hx_62 hens39)
        have h048 : Rn44 0 = R 0 := (by rw [eRn44, hens40]; exact h0_62)
        have hbl49 : BL Rn44 := by rw [eRn44]; exact hens41
        have hq54 : FX R_62 Rn44 := by rw [eRn44]; exact hens39
        have hq55 : ∀ n : Nat, n ≤ 4 → WY n R_62 → WY (n + 1) Rn44 ∧ ((1 : Int32) = 0 ∨ WY n Rn44) := by rw [eRn44]; exact hens42
        refine lv_if_ne (tgt := 73) hx hb dX6_tries_69 (by decide) (fun c56 => ?_) (fun c56 => ?_)
        · rw [if_neg c56] at hR
          have hw57 : WY 4 Rn44 := ((hq55 4 (by decide) (wy_up ow4_62 (by decide))).2).resolve_left (by decide)
          refine lv_aload_n hx hb dX6_tries_73 rfl (lv_at hl 0 rfl) ?_
          refine lv_aload_n hx hb dX6_tries_74 rfl (lv_at hl 0 rfl) ?_
          refine va_get (D := (dC, dI)) (ci := 6) (v := .int (Rn44 6 8)) (C := RX6) (T := TX6) (N := 15) hx hb hts hin6 hown hK hP 0 rfl rfl 14 (by decide) (hts (.fieldLink RX6 194 "FeedDeskModel" "bestGain" "I") (List.mem_of_getElem? (i := 4) rfl)) (fun _ h9 => h9) rfl dX6_tries_75 ?_
          refine lv_aload_n hx hb dX6_tries_78 rfl (lv_at hl 0 rfl) ?_
          refine va_get (D := (dC, dI)) (ci := 6) (v := .int (Rn44 6 6)) (C := RX6) (T := TX6) (N := 15) hx hb hts hin6 hown hK hP 0 rfl rfl 12 (by decide) (hts (.fieldLink RX6 184 "FeedDeskModel" "wayGain" "I") (List.mem_of_getElem? (i := 3) rfl)) (fun _ h9 => h9) rfl dX6_tries_79 ?_
          have hFc : ∀ q : Nat, va_A [] H36.size q → (va_A (cMd a cI R) s.heap.size) q := roF hS hA
          refine va_calli (va_runS (As := [.int (Rn44 6 8), .int (Rn44 6 6)]) (rest := [.ref (a 0)]) ⟨hx, hb, hml, hown, hts⟩ (c_X6_more l dC dI cI cC cS H36.size (Rn44 6 8) (Rn44 6 6)) (va_cwS 2 hts gX6_tries_X6_more rfl rfl rfl (by decide +kernel) ⟨Nat.le_of_ble_eq_true rfl, Nat.le_of_ble_eq_true rfl⟩) (pS hK (va_P_nil) (va_D_nil) hN) rfl rfl hl.1 rfl (lv_room (Nat.le_of_ble_eq_true rfl)) dX6_tries_82 ⟨Nat.le_of_ble_eq_true rfl, Nat.le_of_ble_eq_true rfl⟩) hS (fun q _ h => hFc q h) hFc (fun r_58 u_58 t_58 H59 locs ht hvm hw hB hz1 hk1 hS => ?_)
          subst hw
          have hP := ro_keep hP hk1
          refine va_put (D := (dC, dI)) (ci := 6) (v := .int (f_X6_more (Rn44 6 8) (Rn44 6 6))) (ty := .int) (C := RX6) (T := TX6) (N := 15) hx hb hts hin6 tyX6 tyX6_ok nmX6 hown hK hP hD hS 0 rfl rfl 14 (by decide) (hts (.fieldLink RX6 194 "FeedDeskModel" "bestGain" "I") (List.mem_of_getElem? (i := 4) rfl)) (fun _ h9 => h9) rfl (by decide +kernel) rfl rfl (Nat.le_of_ble_eq_true rfl) dX6_tries_85 (fun H60 locs hP hD hS => ?_)
          have hP : va_P (dC, dI) vwCl (cMd a cI (sU Rn44 6 8 (f_X6_more (Rn44 6 8) (Rn44 6 6)))) H60 := hP
          have hD : va_D (va_A (cMd a cI R) s.heap.size) (cMd a cI (sU Rn44 6 8 (f_X6_more (Rn44 6 8) (Rn44 6 6)))) := hD
          obtain ⟨Rn61, eRn61⟩ : ∃ z : SR, z = sU Rn44 6 8 (f_X6_more (Rn44 6 8) (Rn44 6 6)) := ⟨_, rfl⟩
          rw [sLet_eq, ← eRn61] at hR
          rw [← eRn61] at hP hD
          have hI62 : RA Rn61 := (by rw [eRn61]; exact hI45)
          have hs63 : RS Rn61 := (by rw [eRn61]; exact hs46)
          have hx64 : FX R Rn61 := (by rw [eRn61]; exact hx47)
          have h065 : Rn61 0 = R 0 := (by rw [eRn61]; exact h048)
          have hbl66 : BL Rn61 := (by rw [eRn61]; exact hbl49)
          have ow470 : WY 4 Rn61 := (by rw [eRn61]; exact hw57)
          refine lv_aload_n hx hb dX6_tries_88 rfl (lv_at hl 0 rfl) ?_
          have hPc : va_P (dC, dI) vwCl (cMd a cI Rn61) H60 := hP.sub [0, 1, 2, 3, 4, 5, 6] rfl
          have hDc : va_D (va_A (cMd a cI R) s.heap.size) (cMd a cI Rn61) := hD.sub [0, 1, 2, 3, 4, 5, 6] (by decide) rfl
          have hFc : ∀ q : Nat, va_A [] H60.size q → (va_A (cMd a cI R) s.heap.size) q := roF hS hA
          refine va_calli (va_runV (As := []) (rest := []) ⟨hx, hb, hml, hown, hts⟩ (c_X6_isBetter l dC dI cI cC cS a Rn61 H60.size (wy_up ow470 (by decide))) (cwV 0 hts gX6_tries_X6_isBetter rfl rfl rfl (by decide +kernel) ⟨Nat.le_of_ble_eq_true rfl, Nat.le_of_ble_eq_true rfl⟩) (pV (q0 := 0) hK hPc hDc hN rfl rfl) rfl rfl hl.1 rfl (lv_room (Nat.le_of_ble_eq_true rfl)) dX6_tries_89 ⟨Nat.le_of_ble_eq_true rfl, Nat.le_of_ble_eq_true rfl⟩) hS (fun q _ h => hFc q h) hFc (fun r_71 u_71 t_71 H72 locs ht hvm hw hB hz1 hk1 hS => ?_)
          obtain ⟨hw, hre73⟩ := hw
          subst hw
          have hP := ro_keep hP hk1
          refine lv_if_eq (tgt := 135) hx hb dX6_tries_92 (by decide) (fun c74 => ?_) (fun c74 => ?_)
          · rw [if_pos c74] at hR
            exact W.vret hx hb hr (fun t ht hWw => ⟨⟨Rn61, rfl, ⟨hR.symm.trans eR, hI62, hs63, hx64, h065, hbl66⟩, by rw [ht]; exact hP, hD⟩, hS.F ht⟩) hS.2.2 dX6_tries_135
          · rw [if_neg c74] at hR
            refine lv_aload_n hx hb dX6_tries_95 rfl (lv_at hl 0 rfl) ?_
            refine lv_aload_n hx hb dX6_tries_96 rfl (lv_at hl 0 rfl) ?_
            refine va_get (D := (dC, dI)) (ci := 6) (v := .int (Rn61 6 5)) (C := RX6) (T := TX6) (N := 15) hx hb hts hin6 hown hK hP 0 rfl rfl 11 (by decide) (hts (.fieldLink RX6 181 "FeedDeskModel" "wayLength" "I") (List.mem_of_getElem? (i := 2) rfl)) (fun _ h9 => h9) rfl dX6_tries_97 ?_
            refine va_put (D := (dC, dI)) (ci := 6) (v := .int (Rn61 6 5)) (ty := .int) (C := RX6) (T := TX6) (N := 15) hx hb hts hin6 tyX6 tyX6_ok nmX6 hown hK hP hD hS 0 rfl rfl 13 (by decide) (hts (.fieldLink RX6 187 "FeedDeskModel" "bestLength" "I") (List.mem_of_getElem? (i := 5) rfl)) (fun _ h9 => h9) rfl (by decide +kernel) rfl rfl (Nat.le_of_ble_eq_true rfl) dX6_tries_100 (fun H75 locs hP hD hS => ?_)
            have hP : va_P (dC, dI) vwCl (cMd a cI (sU Rn61 6 7 (Rn61 6 5))) H75 := hP
            have hD : va_D (va_A (cMd a cI R) s.heap.size) (cMd a cI (sU Rn61 6 7 (Rn61 6 5))) := hD
            obtain ⟨Rn76, eRn76⟩ : ∃ z : SR, z = sU Rn61 6 7 (Rn61 6 5) := ⟨_, rfl⟩
            rw [sLet_eq, ← eRn76] at hR
            rw [← eRn76] at hP hD
            have hI77 : RA Rn76 := (by rw [eRn76]; exact hI62)
            have hs78 : RS Rn76 := (by rw [eRn76]; exact hs63)
            have hx79 : FX R Rn76 := (by rw [eRn76]; exact hx64)
            have h080 : Rn76 0 = R 0 := (by rw [eRn76]; exact h065)
            have hbl81 : BL Rn76 := (by rw [eRn76]; exact (wy_len ow470 : vp_in (Rn61 6 5) 5))
            have ow485 : WY 4 Rn76 := (by rw [eRn76]; exact ow470)
            refine lv_iconst (v := 0) hx hb dX6_tries_103 (by decide) ?_
            refine lv_istore (lv' := [(6, .int 0), (0, .ref (a 0)), (1, .int p1), (2, .int p2), (3, .int p3), (4, .int p4), (5, .int p5)]) hx hb dX6_tries_104 hl (by decide) rfl (fun ls hl => ?_)
            have hL_106 : ∀ n_106 : Nat, ∀ (j_106 : Nat), ∀ (x6_106 : Int32) (R_106 : SR), x6_106 = nI j_106 → j_106 ≤ 4 → 4 < j_106 + n_106 → RA R_106 → RS R_106 → FX R R_106 → R_106 0 = R 0 → BL R_106 → WY 4 R_106 → R0 = f_X6_tries_p106 p1 p2 p3 p4 p5 n_106 x6_106 R_106 → ∀ (H : Heap) (locs : List Loc) (ls : Array Slot), va_P (dC, dI) vwCl (cMd a cI R_106) H → va_D (va_A (cMd a cI R) s.heap.size) (cMd a cI R_106) → va_S (va_A (cMd a cI R) s.heap.size) s.heap H locs → lv_has ls 7 [(0, .ref (a 0)), (1, .int p1), (2, .int p2), (3, .int p3), (4, .int p4), (5, .int p5), (6, .int x6_106)] → W p l e (headSpec wsX6_tries rm_X6_tries).room s m ([.ref (a 0), .int p1, .int p2, .int p3, .int p4, .int p5] : List Value).toArray below meth c H locs 0 0 (MQ below (va_Qv (fun (u : SR) => u = f_X6_tries R p1 p2 p3 p4 p5 ∧ (RA u) ∧ (RS u) ∧ (FX R u) ∧ (u 0 = R 0) ∧ (BL u)) (fun u U => va_P (dC, dI) vwCl (cMd a cI u) U.heap ∧ va_D (va_A (cMd a cI R) s.heap.size) (cMd a cI u)) (va_A (cMd a cI R) s.heap.size)) ([.ref (a 0), .int p1, .int p2, .int p3, .int p4, .int p5] : List Value).toArray s 0 0 (va_A (cMd a cI R) s.heap.size)) (F0 m 106 ls []) := by
              intro n_106
              induction n_106 with
              | zero =>
                intro j_106 x6_106 R_106 ex6_106 hj0_106 hn_106 hI_106 hs_106 hx_106 h0_106 hbl_106 ow4_106
                exact absurd hn_106 (by omega)
              | succ n_106 ih_106 =>
                intro j_106 x6_106 R_106 ex6_106 hj0_106 hn_106 hI_106 hs_106 hx_106 h0_106 hbl_106 ow4_106 hR H locs ls hP hD hS hl
                rw [f_X6_tries_p106] at hR
                refine lv_iload hx hb dX6_tries_106 (lv_at hl 6 rfl) ?_
                refine lv_aload_n hx hb dX6_tries_108 rfl (lv_at hl 0 rfl) ?_
                refine va_get (D := (dC, dI)) (ci := 6) (v := .int (R_106 6 5)) (C := RX6) (T := TX6) (N := 15) hx hb hts hin6 hown hK hP 0 rfl rfl 11 (by decide) (hts (.fieldLink RX6 181 "FeedDeskModel" "wayLength" "I") (List.mem_of_getElem? (i := 2) rfl)) (fun _ h9 => h9) rfl dX6_tries_109 ?_
                refine lv_icmp_ge (tgt := 135) hx hb dX6_tries_112 (by decide) (fun c86 => ?_) (fun c86 => ?_)
                · rw [if_pos c86] at hR
                  exact W.vret hx hb hr (fun t ht hWw => ⟨⟨R_106, rfl, ⟨hR.symm.trans eR, hI_106, hs_106, hx_106, h0_106, hbl_106⟩, by rw [ht]; exact hP, hD⟩, hS.F ht⟩) hS.2.2 dX6_tries_135
                · rw [if_neg c86] at hR
                  have hj_106 : j_106 < 4 := wy_lt ow4_106 ex6_106 (by omega) c86
                  refine lv_aload_n hx hb dX6_tries_115 rfl (lv_at hl 0 rfl) ?_
                  refine va_get (D := (dC, dI)) (ci := 6) (v := .ref (a 6)) (C := RX6) (T := TX6) (N := 15) hx hb hts hin6 hown hK hP 0 rfl rfl 10 (by decide) (hts (.fieldLink RX6 25 "FeedDeskModel" "best" "[I") (List.mem_of_getElem? (i := 6) rfl)) (fun _ h9 => h9) rfl dX6_tries_116 ?_
                  refine lv_iload hx hb dX6_tries_119 (lv_at hl 6 rfl) ?_
                  refine lv_aload_n hx hb dX6_tries_121 rfl (lv_at hl 0 rfl) ?_
                  refine va_get (D := (dC, dI)) (ci := 6) (v := .ref (a 5)) (C := RX6) (T := TX6) (N := 15) hx hb hts hin6 hown hK hP 0 rfl rfl 9 (by decide) (hts (.fieldLink RX6 22 "FeedDeskModel" "way" "[I") (List.mem_of_getElem? (i := 1) rfl)) (fun _ h9 => h9) rfl dX6_tries_122 ?_
                  refine lv_iload hx hb dX6_tries_125 (lv_at hl 6 rfl) ?_
                  refine va_iald (f := R_106 4) hx hb hK hP 5 0 rfl rfl (by rw [ex6_106]; exact vp_of_B (ix_2 j_106 hj_106)) dX6_tries_127 ?_
                  refine va_iast (f := R_106 5) hx hb hK hP hD hS 6 0 rfl rfl (by rw [ex6_106]; exact vp_of_B (ix_2 j_106 hj_106)) dX6_tries_128 (fun H87 locs hP hD hS => ?_)
                  have hP : va_P (dC, dI) vwCl (cMd a cI (sU R_106 5 x6_106.toNatClampNeg (R_106 4 x6_106.toNatClampNeg))) H87 := hP
                  have hD : va_D (va_A (cMd a cI R) s.heap.size) (cMd a cI (sU R_106 5 x6_106.toNatClampNeg (R_106 4 x6_106.toNatClampNeg))) := hD
                  obtain ⟨Rn88, eRn88⟩ : ∃ z : SR, z = sU R_106 5 x6_106.toNatClampNeg (R_106 4 x6_106.toNatClampNeg) := ⟨_, rfl⟩
                  rw [sLet_eq, ← eRn88] at hR
                  rw [← eRn88] at hP hD
                  have hI89 : RA Rn88 := (by rw [eRn88]; exact hI_106)
                  have hs90 : RS Rn88 := (by rw [eRn88]; exact hs_106)
                  have hx91 : FX R Rn88 := (by rw [eRn88]; exact hx_106)
                  have h092 : Rn88 0 = R 0 := (by rw [eRn88]; exact h0_106)
                  have hbl93 : BL Rn88 := (by rw [eRn88]; exact hbl_106)
                  have ow497 : WY 4 Rn88 := (by rw [eRn88]; exact ow4_106)
                  refine lv_iinc (v := x6_106 + 1) (lv' := [(6, .int (x6_106 + 1)), (0, .ref (a 0)), (1, .int p1), (2, .int p2), (3, .int p3), (4, .int p4), (5, .int p5)]) hx hb dX6_tries_129 hl (k := 6) rfl rfl (by decide) rfl (fun ls hl => ?_)
                  refine lv_goto (tgt := 106) hx hb dX6_tries_132 (by decide) ?_
                  exact ih_106 (j_106 + 1) (x6_106 + 1) Rn88 (by rw [ex6_106, nI_1]) (by omega) (by omega) hI89 hs90 hx91 h092 hbl93 ow497 hR _ _ _ hP hD hS (lv_sub hl [1, 2, 3, 4, 5, 6, 0] rfl)
            exact hL_106 5 0 0 Rn76 (by decide +kernel) (by decide) (by decide) hI77 hs78 hx79 h080 hbl81 ow485 hR _ _ _ hP hD hS (lv_sub hl [1, 2, 3, 4, 5, 6, 0] rfl)
        · rw [if_pos c56] at hR
          exact W.vret hx hb hr (fun t ht hWw => ⟨⟨Rn44, rfl, ⟨hR.symm.trans eR, hI45, hs46, hx47, h048, hbl49⟩, by rw [ht]; exact hP, hD⟩, hS.F ht⟩) hS.2.2 dX6_tries_72
      refine lv_icmp_ge (tgt := 62) hx hb dX6_tries_49 (by decide) (fun c98 => ?_) (fun c98 => ?_)
      · rw [if_pos c98] at hR
        exact hJ_62 R_46 hI_46 hs_46 hx_46 h0_46 hbl_46 (wy_up ow3_46 (by decide)) hR _ _ _ hP hD hS (lv_sub hl [0, 1, 2, 3, 4, 5] rfl)
      · rw [if_neg c98] at hR
        have hq99 : ip4 < 4 := lp_ge ep4 (by decide +kernel) (by omega) (by omega) c98
        refine lv_aload_n hx hb dX6_tries_52 rfl (lv_at hl 0 rfl) ?_
        refine lv_iload hx hb dX6_tries_53 (lv_at hl 4 rfl) ?_
        refine lv_iconst (v := 0) hx hb dX6_tries_55 (by decide) ?_
        have hPc : va_P (dC, dI) vwCl (cMd a cI R_46) H := hP.sub [0, 1, 2, 3, 4, 5, 6] rfl
        have hDc : va_D (va_A (cMd a cI R) s.heap.size) (cMd a cI R_46) := hD.sub [0, 1, 2, 3, 4, 5, 6] (by decide) rfl
        have hFc : ∀ q : Nat, va_A (cMd a cI R_46) H.size q → (va_A (cMd a cI R) s.heap.size) q := va_free hD hS hA [0, 1, 2, 3, 4, 5, 6] rfl
        refine va_calli (va_runV (As := [.int p4, .int 0]) (rest := []) ⟨hx, hb, hml, hown, hts⟩ (c_X6_goes l dC dI cI cC cS a R_46 H.size p4 0 (by rw [ep4]; exact vp_of_B (ix_2 ip4 hq99)) (wy_up ow3_46 (by decide)) (fun _ => wy_up ow3_46 (by decide)) hI_46 hs_46 hbl_46) (cwV 2 hts gX6_tries_X6_goes rfl rfl rfl (by decide +kernel) ⟨Nat.le_of_ble_eq_true rfl, Nat.le_of_ble_eq_true rfl⟩) (pV (q0 := 0) hK hPc hDc hN rfl rfl) rfl rfl hl.1 rfl (lv_room (Nat.le_of_ble_eq_true rfl)) dX6_tries_56 ⟨Nat.le_of_ble_eq_true rfl, Nat.le_of_ble_eq_true rfl⟩) hS (fun q _ h => hFc q h) hFc (fun r_100 u_100 t_100 H101 locs ht hvm hw hB hz1 hk1 hS => ?_)
        obtain ⟨hw, hens102, hens103, hens104, hens105, hens106, hens107, hens108⟩ := hw
        obtain ⟨hP1, hD1⟩ := hB
        rw [ht] at hP1
        have hw1 : r_100 = (f_X6_goes R_46 p4 0).1 := congrArg Prod.fst hw
        have hw2 : u_100 = (f_X6_goes R_46 p4 0).2 := congrArg Prod.snd hw
        clear hw
        subst hw1
        subst hw2
        obtain ⟨hP, hD⟩ := va_join (wc := cMd a cI R_46) (wr := []) (w1 := cMd a cI ((f_X6_goes R_46 p4 0).2)) hP hD [0, 1, 2, 3, 4, 5, 6] [] rfl rfl (by decide) (by decide) hk1 hFc hP1 hD1
        have hP : va_P (dC, dI) vwCl (cMd a cI ((f_X6_goes R_46 p4 0).2)) H101 := hP.sub [0, 1, 2, 3, 4, 5, 6] rfl
        have hD : va_D (va_A (cMd a cI R) s.heap.size) (cMd a cI ((f_X6_goes R_46 p4 0).2)) := hD.sub [0, 1, 2, 3, 4, 5, 6] (by decide) rfl
        obtain ⟨Rn109, eRn109⟩ : ∃ z : SR, z = (f_X6_goes R_46 p4 0).2 := ⟨_, rfl⟩
        rw [sLet_eq, ← eRn109] at hR
        rw [← eRn109] at hP hD
        have hI110 : RA Rn109 := by rw [eRn109]; exact hens102
        have hs111 : RS Rn109 := by rw [eRn109]; exact hens103
        have hx112 : FX R Rn109 := (by rw [eRn109]; exact fx_tr hx_46 hens104)
        have h0113 : Rn109 0 = R 0 := (by rw [eRn109, hens105]; exact h0_46)
        have hbl114 : BL Rn109 := by rw [eRn109]; exact hens106
        have hq119 : FX R_46 Rn109 := by rw [eRn109]; exact hens104
        have hq120 : ∀ n : Nat, n ≤ 4 → WY n R_46 → WY (n + 1) Rn109 ∧ ((0 : Int32) = 0 ∨ WY n Rn109) := by rw [eRn109]; exact hens107
        refine lv_if_eq (tgt := 72) hx hb dX6_tries_59 (by decide) (fun c121 => ?_) (fun c121 => ?_)
        · rw [if_pos c121] at hR
          exact W.vret hx hb hr (fun t ht hWw => ⟨⟨Rn109, rfl, ⟨hR.symm.trans eR, hI110, hs111, hx112, h0113, hbl114⟩, by rw [ht]; exact hP, hD⟩, hS.F ht⟩) hS.2.2 dX6_tries_72
        · rw [if_neg c121] at hR
          exact hJ_62 Rn109 hI110 hs111 hx112 h0113 hbl114 (hq120 3 (by decide) (wy_up ow3_46 (by decide))).1 hR _ _ _ hP hD hS (lv_sub hl [0, 1, 2, 3, 4, 5] rfl)
    refine lv_icmp_ge (tgt := 46) hx hb dX6_tries_34 (by decide) (fun c122 => ?_) (fun c122 => ?_)
    · rw [if_pos c122] at hR
      exact hJ_46 R_32 hI_32 hs_32 hx_32 h0_32 hbl_32 (wy_up ow2_32 (by decide)) hR _ _ _ hP hD hS (lv_sub hl [0, 1, 2, 3, 4, 5] rfl)
    · rw [if_neg c122] at hR
      have hq123 : ip3 < 4 := lp_ge ep3 (by decide +kernel) (by omega) (by omega) c122
      refine lv_aload_n hx hb dX6_tries_37 rfl (lv_at hl 0 rfl) ?_
      refine lv_iload_n hx hb dX6_tries_38 rfl (lv_at hl 3 rfl) ?_
      refine lv_iconst (v := 0) hx hb dX6_tries_39 (by decide) ?_
      have hPc : va_P (dC, dI) vwCl (cMd a cI R_32) H := hP.sub [0, 1, 2, 3, 4, 5, 6] rfl
      have hDc : va_D (va_A (cMd a cI R) s.heap.size) (cMd a cI R_32) := hD.sub [0, 1, 2, 3, 4, 5, 6] (by decide) rfl
      have hFc : ∀ q : Nat, va_A (cMd a cI R_32) H.size q → (va_A (cMd a cI R) s.heap.size) q := va_free hD hS hA [0, 1, 2, 3, 4, 5, 6] rfl
      refine va_calli (va_runV (As := [.int p3, .int 0]) (rest := []) ⟨hx, hb, hml, hown, hts⟩ (c_X6_goes l dC dI cI cC cS a R_32 H.size p3 0 (by rw [ep3]; exact vp_of_B (ix_2 ip3 hq123)) (wy_up ow2_32 (by decide)) (fun _ => wy_up ow2_32 (by decide)) hI_32 hs_32 hbl_32) (cwV 2 hts gX6_tries_X6_goes rfl rfl rfl (by decide +kernel) ⟨Nat.le_of_ble_eq_true rfl, Nat.le_of_ble_eq_true rfl⟩) (pV (q0 := 0) hK hPc hDc hN rfl rfl) rfl rfl hl.1 rfl (lv_room (Nat.le_of_ble_eq_true rfl)) dX6_tries_40 ⟨Nat.le_of_ble_eq_true rfl, Nat.le_of_ble_eq_true rfl⟩) hS (fun q _ h => hFc q h) hFc (fun r_124 u_124 t_124 H125 locs ht hvm hw hB hz1 hk1 hS => ?_)
      obtain ⟨hw, hens126, hens127, hens128, hens129, hens130, hens131, hens132⟩ := hw
      obtain ⟨hP1, hD1⟩ := hB
      rw [ht] at hP1
      have hw1 : r_124 = (f_X6_goes R_32 p3 0).1 := congrArg Prod.fst hw
      have hw2 : u_124 = (f_X6_goes R_32 p3 0).2 := congrArg Prod.snd hw
      clear hw
      subst hw1
      subst hw2
      obtain ⟨hP, hD⟩ := va_join (wc := cMd a cI R_32) (wr := []) (w1 := cMd a cI ((f_X6_goes R_32 p3 0).2)) hP hD [0, 1, 2, 3, 4, 5, 6] [] rfl rfl (by decide) (by decide) hk1 hFc hP1 hD1
      have hP : va_P (dC, dI) vwCl (cMd a cI ((f_X6_goes R_32 p3 0).2)) H125 := hP.sub [0, 1, 2, 3, 4, 5, 6] rfl
      have hD : va_D (va_A (cMd a cI R) s.heap.size) (cMd a cI ((f_X6_goes R_32 p3 0).2)) := hD.sub [0, 1, 2, 3, 4, 5, 6] (by decide) rfl
      obtain ⟨Rn133, eRn133⟩ : ∃ z : SR, z = (f_X6_goes R_32 p3 0).2 := ⟨_, rfl⟩
      rw [sLet_eq, ← eRn133] at hR
      rw [← eRn133] at hP hD
      have hI134 : RA Rn133 := by rw [eRn133]; exact hens126
      have hs135 : RS Rn133 := by rw [eRn133]; exact hens127
      have hx136 : FX R Rn133 := (by rw [eRn133]; exact fx_tr hx_32 hens128)
      have h0137 : Rn133 0 = R 0 := (by rw [eRn133, hens129]; exact h0_32)
      have hbl138 : BL Rn133 := by rw [eRn133]; exact hens130
      have hq143 : FX R_32 Rn133 := by rw [eRn133]; exact hens128
      have hq144 : ∀ n : Nat, n ≤ 4 → WY n R_32 → WY (n + 1) Rn133 ∧ ((0 : Int32) = 0 ∨ WY n Rn133) := by rw [eRn133]; exact hens131
      refine lv_if_eq (tgt := 72) hx hb dX6_tries_43 (by decide) (fun c145 => ?_) (fun c145 => ?_)
      · rw [if_pos c145] at hR
        exact W.vret hx hb hr (fun t ht hWw => ⟨⟨Rn133, rfl, ⟨hR.symm.trans eR, hI134, hs135, hx136, h0137, hbl138⟩, by rw [ht]; exact hP, hD⟩, hS.F ht⟩) hS.2.2 dX6_tries_72
      · rw [if_neg c145] at hR
        exact hJ_46 Rn133 hI134 hs135 hx136 h0137 hbl138 (hq144 2 (by decide) (wy_up ow2_32 (by decide))).1 hR _ _ _ hP hD hS (lv_sub hl [0, 1, 2, 3, 4, 5] rfl)
  refine lv_icmp_ge (tgt := 32) hx hb dX6_tries_20 (by decide) (fun c146 => ?_) (fun c146 => ?_)
  · rw [if_pos c146] at hR
    exact hJ_32 Rn25 hI26 hs27 hx28 h029 hbl30 (wy_up ow131 (by decide)) hR _ _ _ hP hD hS (lv_sub hl [0, 1, 2, 3, 4, 5] rfl)
  · rw [if_neg c146] at hR
    have hq147 : ip2 < 4 := lp_ge ep2 (by decide +kernel) (by omega) (by omega) c146
    refine lv_aload_n hx hb dX6_tries_23 rfl (lv_at hl 0 rfl) ?_
    refine lv_iload_n hx hb dX6_tries_24 rfl (lv_at hl 2 rfl) ?_
    refine lv_iconst (v := 0) hx hb dX6_tries_25 (by decide) ?_
    have hPc : va_P (dC, dI) vwCl (cMd a cI Rn25) H24 := hP.sub [0, 1, 2, 3, 4, 5, 6] rfl
    have hDc : va_D (va_A (cMd a cI R) s.heap.size) (cMd a cI Rn25) := hD.sub [0, 1, 2, 3, 4, 5, 6] (by decide) rfl
    have hFc : ∀ q : Nat, va_A (cMd a cI Rn25) H24.size q → (va_A (cMd a cI R) s.heap.size) q := va_free hD hS hA [0, 1, 2, 3, 4, 5, 6] rfl
    refine va_calli (va_runV (As := [.int p2, .int 0]) (rest := []) ⟨hx, hb, hml, hown, hts⟩ (c_X6_goes l dC dI cI cC cS a Rn25 H24.size p2 0 (by rw [ep2]; exact vp_of_B (ix_2 ip2 hq147)) (wy_up ow131 (by decide)) (fun _ => wy_up ow131 (by decide)) hI26 hs27 hbl30) (cwV 2 hts gX6_tries_X6_goes rfl rfl rfl (by decide +kernel) ⟨Nat.le_of_ble_eq_true rfl, Nat.le_of_ble_eq_true rfl⟩) (pV (q0 := 0) hK hPc hDc hN rfl rfl) rfl rfl hl.1 rfl (lv_room (Nat.le_of_ble_eq_true rfl)) dX6_tries_26 ⟨Nat.le_of_ble_eq_true rfl, Nat.le_of_ble_eq_true rfl⟩) hS (fun q _ h => hFc q h) hFc (fun r_148 u_148 t_148 H149 locs ht hvm hw hB hz1 hk1 hS => ?_)
    obtain ⟨hw, hens150, hens151, hens152, hens153, hens154, hens155, hens156⟩ := hw
    obtain ⟨hP1, hD1⟩ := hB
    rw [ht] at hP1
    have hw1 : r_148 = (f_X6_goes Rn25 p2 0).1 := congrArg Prod.fst hw
    have hw2 : u_148 = (f_X6_goes Rn25 p2 0).2 := congrArg Prod.snd hw
    clear hw
    subst hw1
    subst hw2
    obtain ⟨hP, hD⟩ := va_join (wc := cMd a cI Rn25) (wr := []) (w1 := cMd a cI ((f_X6_goes Rn25 p2 0).2)) hP hD [0, 1, 2, 3, 4, 5, 6] [] rfl rfl (by decide) (by decide) hk1 hFc hP1 hD1
    have hP : va_P (dC, dI) vwCl (cMd a cI ((f_X6_goes Rn25 p2 0).2)) H149 := hP.sub [0, 1, 2, 3, 4, 5, 6] rfl
    have hD : va_D (va_A (cMd a cI R) s.heap.size) (cMd a cI ((f_X6_goes Rn25 p2 0).2)) := hD.sub [0, 1, 2, 3, 4, 5, 6] (by decide) rfl
    obtain ⟨Rn157, eRn157⟩ : ∃ z : SR, z = (f_X6_goes Rn25 p2 0).2 := ⟨_, rfl⟩
    rw [sLet_eq, ← eRn157] at hR
    rw [← eRn157] at hP hD
    have hI158 : RA Rn157 := by rw [eRn157]; exact hens150
    have hs159 : RS Rn157 := by rw [eRn157]; exact hens151
    have hx160 : FX R Rn157 := (by rw [eRn157]; exact fx_tr hx28 hens152)
    have h0161 : Rn157 0 = R 0 := (by rw [eRn157, hens153]; exact h029)
    have hbl162 : BL Rn157 := by rw [eRn157]; exact hens154
    have hq167 : FX Rn25 Rn157 := by rw [eRn157]; exact hens152
    have hq168 : ∀ n : Nat, n ≤ 4 → WY n Rn25 → WY (n + 1) Rn157 ∧ ((0 : Int32) = 0 ∨ WY n Rn157) := by rw [eRn157]; exact hens155
    refine lv_if_eq (tgt := 72) hx hb dX6_tries_29 (by decide) (fun c169 => ?_) (fun c169 => ?_)
    · rw [if_pos c169] at hR
      exact W.vret hx hb hr (fun t ht hWw => ⟨⟨Rn157, rfl, ⟨hR.symm.trans eR, hI158, hs159, hx160, h0161, hbl162⟩, by rw [ht]; exact hP, hD⟩, hS.F ht⟩) hS.2.2 dX6_tries_72
    · rw [if_neg c169] at hR
      exact hJ_32 Rn157 hI158 hs159 hx160 h0161 hbl162 (hq168 1 (by decide) (wy_up ow131 (by decide))).1 hR _ _ _ hP hD hS (lv_sub hl [0, 1, 2, 3, 4, 5] rfl)
abbrev rm_X6_finds : Room := { frames := 6, cells := 0, slots := 0, locals := 137 }
def f_X6_finds_p30 (p1 : Int32) (p2 : Int32) (kb13 : Int32 → SR → (Int32 × SR)) (kb21 : Int32 → Int32 → SR → (Int32 × SR)) : Nat → Int32 → Int32 → Int32 → SR → (Int32 × SR)
  | 0, _, _, _, R_30 => (0, R_30)
  | n_30 + 1, x3_30, x4_30, x5_30, R_30 => (if 4 < x5_30 then kb21 x3_30 (x4_30 + 1) R_30 else (if (f_X6_areDifferent x3_30 x4_30 x5_30 p2) = 0 then (f_X6_finds_p30 p1 p2 kb13 kb21 n_30) x3_30 x4_30 (x5_30 + 1) R_30 else sLet ((f_X6_tries R_30 p1 x3_30 x4_30 x5_30 p2)) (fun Rn31 : SR => (f_X6_finds_p30 p1 p2 kb13 kb21 n_30) x3_30 x4_30 (x5_30 + 1) Rn31)))
def f_X6_finds_p21 (p1 : Int32) (p2 : Int32) (kb13 : Int32 → SR → (Int32 × SR)) : Nat → Int32 → Int32 → SR → (Int32 × SR)
  | 0, _, _, R_21 => (0, R_21)
  | n_21 + 1, x3_21, x4_21, R_21 => (if 4 < x4_21 then kb13 (x3_21 + 1) R_21 else f_X6_finds_p30 p1 p2 kb13 (f_X6_finds_p21 p1 p2 kb13 n_21) 6 x3_21 x4_21 0 R_21)
def f_X6_finds_p13 (p1 : Int32) (p2 : Int32)  : Nat → Int32 → SR → (Int32 × SR)
  | 0, _, R_13 => (0, R_13)
  | n_13 + 1, x3_13, R_13 => (if 4 < x3_13 then (if (R_13 6 7) ≤ 0 then (0, R_13) else (1, R_13)) else f_X6_finds_p21 p1 p2 (f_X6_finds_p13 p1 p2 n_13) 6 x3_13 0 R_13)
def f_X6_finds (R : SR) (p1 : Int32) (p2 : Int32) : Int32 × SR := sLet (sU R 6 7 0) (fun Rn2 : SR => sLet (sU Rn2 6 8 (-99)) (fun Rn10 : SR => f_X6_finds_p13 p1 p2 6 0 Rn10))
set_option maxHeartbeats 4000000 in
set_option maxRecDepth 100000 in
theorem c_X6_finds (l : Launch) (dC : Nat → ClassId) (dI : Nat → Nat → Nat) (cI cC cS : ClassId) (a : Nat → Nat) (R : SR) (sz : Nat) (p1 : Int32) (p2 : Int32) (h1 : vp_in p1 12) (h2 : vp_in p2 4) (hI : RA R) (hs : RS R) : Met l yX6_finds wsX6_finds rm_X6_finds (PcG (dC, dI) (tyL cI cC cS) (cMd a cI R) sz [.ref (a 0), .int p1, .int p2]) (va_Qi (fun (r : Int32) (u : SR) => (r, u) = f_X6_finds R p1 p2 ∧ (RA u) ∧ (RS u) ∧ (FX R u) ∧ (u 0 = R 0) ∧ (BL u) ∧ (r = 0 ∨ r = 1)) (fun u U => va_P (dC, dI) vwCl (cMd a cI u) U.heap ∧ va_D (va_A (cMd a cI R) sz) (cMd a cI u)) (va_A (cMd a cI R) sz)) 0 0 (va_A (cMd a cI R) sz) := by
  refine Met.ofW (cc := cX6_finds) (maxL := 6) (ret := (some .boolean)) (by decide) rfl ?_
  intro p e s m args below meth c s₁ B hml hv
  obtain ⟨rfl, hsz, hP, hK, hD0, hN⟩ := hv
  have hx := B.exec
  have hb := B.bytes
  have hr := B.returns
  have hts := atoms_spec (ws := wsX6_finds) B.pre
  have hown : s.vm.findClass RX6 = some m.cls := findClass_of_methodNamed B.named
  have hlocks := B.notSynchronized
  subst hsz
  have hD := hD0.self (sz := s.heap.size)
  have hA : ∀ q : Nat, s.heap.size ≤ q → (va_A (cMd a cI R) s.heap.size) q := fun q h => Or.inr h
  have hS : va_S (va_A (cMd a cI R) s.heap.size) s.heap s.heap [] := va_S.rf
  have hin6 : ∀ w ∈ wsX60, w ∈ wsX6_finds := fun _ h => List.mem_cons_of_mem _ (List.mem_append_right _ h)
  have hx_0 : FX R R := fx_rf
  have h0_0 : R 0 = R 0 := rfl
  have hl := lv_entry [.ref (a 0), .int p1, .int p2] (n := 6) (Nat.le_of_ble_eq_true rfl)
  rw [lg_entry_eq]
  generalize (lg_sl [.ref (a 0), .int p1, .int p2] ++ List.replicate (6 - (lg_sl [.ref (a 0), .int p1, .int p2]).length) Slot.unset).toArray = ls at hl ⊢
  have hl : lv_has ls 6 [(0, .ref (a 0)), (1, .int p1), (2, .int p2)] := hl
  obtain ⟨R0, eR⟩ : ∃ z, z = f_X6_finds R p1 p2 := ⟨_, rfl⟩
  have hR := eR
  rw [f_X6_finds] at hR
  refine lv_aload_n hx hb dX6_finds_0 rfl (lv_at hl 0 rfl) ?_
  refine lv_iconst (v := 0) hx hb dX6_finds_1 (by decide) ?_
  refine va_put (D := (dC, dI)) (ci := 6) (v := .int 0) (ty := .int) (C := RX6) (T := TX6) (N := 15) hx hb hts hin6 tyX6 tyX6_ok nmX6 hown hK hP hD hS 0 rfl rfl 13 (by decide) (hts (.fieldLink RX6 187 "FeedDeskModel" "bestLength" "I") (List.mem_of_getElem? (i := 1) rfl)) (fun _ h9 => h9) rfl (by decide +kernel) rfl rfl (Nat.le_of_ble_eq_true rfl) dX6_finds_2 (fun H1 locs hP hD hS => ?_)
  have hP : va_P (dC, dI) vwCl (cMd a cI (sU R 6 7 0)) H1 := hP
  have hD : va_D (va_A (cMd a cI R) s.heap.size) (cMd a cI (sU R 6 7 0)) := hD
  obtain ⟨Rn2, eRn2⟩ : ∃ z : SR, z = sU R 6 7 0 := ⟨_, rfl⟩
  rw [sLet_eq, ← eRn2] at hR
  rw [← eRn2] at hP hD
  have hI3 : RA Rn2 := (by rw [eRn2]; exact hI)
  have hs4 : RS Rn2 := (by rw [eRn2]; exact hs)
  have hx5 : FX R Rn2 := (by rw [eRn2]; exact hx_0)
  have h06 : Rn2 0 = R 0 := (by rw [eRn2]; exact h0_0)
  have hb8 : BL Rn2 := by rw [eRn2]; exact bl_0
  refine lv_aload_n hx hb dX6_finds_5 rfl (lv_at hl 0 rfl) ?_
  refine lv_bipush (v := (-99)) hx hb dX6_finds_6 (by decide) ?_
  refine va_put (D := (dC, dI)) (ci := 6) (v := .int (-99)) (ty := .int) (C := RX6) (T := TX6) (N := 15) hx hb hts hin6 tyX6 tyX6_ok nmX6 hown hK hP hD hS 0 rfl rfl 14 (by decide) (hts (.fieldLink RX6 194 "FeedDeskModel" "bestGain" "I") (List.mem_of_getElem? (i := 2) rfl)) (fun _ h9 => h9) rfl (by decide +kernel) rfl rfl (Nat.le_of_ble_eq_true rfl) dX6_finds_8 (fun H9 locs hP hD hS => ?_)
  have hP : va_P (dC, dI) vwCl (cMd a cI (sU Rn2 6 8 (-99))) H9 := hP
  have hD : va_D (va_A (cMd a cI R) s.heap.size) (cMd a cI (sU Rn2 6 8 (-99))) := hD
  obtain ⟨Rn10, eRn10⟩ : ∃ z : SR, z = sU Rn2 6 8 (-99) := ⟨_, rfl⟩
  rw [sLet_eq, ← eRn10] at hR
  rw [← eRn10] at hP hD
  have hI11 : RA Rn10 := (by rw [eRn10]; exact hI3)
  have hs12 : RS Rn10 := (by rw [eRn10]; exact hs4)
  have hx13 : FX R Rn10 := (by rw [eRn10]; exact hx5)
  have h014 : Rn10 0 = R 0 := (by rw [eRn10]; exact h06)
  have ob15 : BL Rn10 := (by rw [eRn10]; exact hb8)
  refine lv_iconst (v := 0) hx hb dX6_finds_11 (by decide) ?_
  refine lv_istore_n (lv' := [(3, .int 0), (0, .ref (a 0)), (1, .int p1), (2, .int p2)]) hx hb dX6_finds_12 rfl hl (by decide) rfl (fun ls hl => ?_)
  have hL_13 : ∀ n_13 : Nat, ∀ (j_13 : Nat), ∀ (x3_13 : Int32) (R_13 : SR), x3_13 = nI j_13 → j_13 ≤ 5 → 5 < j_13 + n_13 → RA R_13 → RS R_13 → FX R R_13 → R_13 0 = R 0 → BL R_13 → R0 = f_X6_finds_p13 p1 p2 n_13 x3_13 R_13 → ∀ (H : Heap) (locs : List Loc) (ls : Array Slot), va_P (dC, dI) vwCl (cMd a cI R_13) H → va_D (va_A (cMd a cI R) s.heap.size) (cMd a cI R_13) → va_S (va_A (cMd a cI R) s.heap.size) s.heap H locs → lv_has ls 6 [(0, .ref (a 0)), (1, .int p1), (2, .int p2), (3, .int x3_13)] → W p l e (headSpec wsX6_finds rm_X6_finds).room s m ([.ref (a 0), .int p1, .int p2] : List Value).toArray below meth c H locs 0 0 (MQ below (va_Qi (fun (r : Int32) (u : SR) => (r, u) = f_X6_finds R p1 p2 ∧ (RA u) ∧ (RS u) ∧ (FX R u) ∧ (u 0 = R 0) ∧ (BL u) ∧ (r = 0 ∨ r = 1)) (fun u U => va_P (dC, dI) vwCl (cMd a cI u) U.heap ∧ va_D (va_A (cMd a cI R) s.heap.size) (cMd a cI u)) (va_A (cMd a cI R) s.heap.size)) ([.ref (a 0), .int p1, .int p2] : List Value).toArray s 0 0 (va_A (cMd a cI R) s.heap.size)) (F0 m 13 ls []) := by
    intro n_13
    induction n_13 with
    | zero =>
      intro j_13 x3_13 R_13 ex3_13 hj0_13 hn_13 hI_13 hs_13 hx_13 h0_13 ob_13
      exact absurd hn_13 (by omega)
    | succ n_13 ih_13 =>
      intro j_13 x3_13 R_13 ex3_13 hj0_13 hn_13 hI_13 hs_13 hx_13 h0_13 ob_13 hR H locs ls hP hD hS hl
      rw [f_X6_finds_p13] at hR
      refine lv_iload_n hx hb dX6_finds_13 rfl (lv_at hl 3 rfl) ?_
      refine lv_iconst (v := 4) hx hb dX6_finds_14 (by decide) ?_
      refine lv_icmp_gt (tgt := 77) hx hb dX6_finds_15 (by decide) (fun c16 => ?_) (fun c16 => ?_)
      · rw [if_pos c16] at hR
        refine lv_aload_n hx hb dX6_finds_77 rfl (lv_at hl 0 rfl) ?_
        refine va_get (D := (dC, dI)) (ci := 6) (v := .int (R_13 6 7)) (C := RX6) (T := TX6) (N := 15) hx hb hts hin6 hown hK hP 0 rfl rfl 13 (by decide) (hts (.fieldLink RX6 187 "FeedDeskModel" "bestLength" "I") (List.mem_of_getElem? (i := 1) rfl)) (fun _ h9 => h9) rfl dX6_finds_78 ?_
        refine lv_if_le (tgt := 88) hx hb dX6_finds_81 (by decide) (fun c17 => ?_) (fun c17 => ?_)
        · rw [if_pos c17] at hR
          refine lv_iconst (v := 0) hx hb dX6_finds_88 (by decide) ?_
          exact W.zret (v := 0) hx hb hr rfl (fun t ht hWw => ⟨⟨0, R_13, rfl, ⟨hR.symm.trans eR, hI_13, hs_13, hx_13, h0_13, ob_13, (Or.inl rfl)⟩, by rw [ht]; exact hP, hD⟩, hS.F ht⟩) hS.2.2 dX6_finds_89
        · rw [if_neg c17] at hR
          refine lv_iconst (v := 1) hx hb dX6_finds_84 (by decide) ?_
          refine lv_goto (tgt := 89) hx hb dX6_finds_85 (by decide) ?_
          exact W.zret (v := 1) hx hb hr rfl (fun t ht hWw => ⟨⟨1, R_13, rfl, ⟨hR.symm.trans eR, hI_13, hs_13, hx_13, h0_13, ob_13, (Or.inr rfl)⟩, by rw [ht]; exact hP, hD⟩, hS.F ht⟩) hS.2.2 dX6_finds_89
      · rw [if_neg c16] at hR
        have hj_13 : j_13 < 5 := lp_gt ex3_13 (by decide +kernel) (by omega) (by omega) c16
        refine lv_iconst (v := 0) hx hb dX6_finds_18 (by decide) ?_
        refine lv_istore (lv' := [(4, .int 0), (0, .ref (a 0)), (1, .int p1), (2, .int p2), (3, .int x3_13)]) hx hb dX6_finds_19 hl (by decide) rfl (fun ls hl => ?_)
        have hL_21 : ∀ n_21 : Nat, ∀ (j_21 : Nat), ∀ (x3_21 : Int32) (x4_21 : Int32) (R_21 : SR), x4_21 = nI j_21 → j_21 ≤ 5 → 5 < j_21 + n_21 → x3_21 = nI j_13 → RA R_21 → RS R_21 → FX R R_21 → R_21 0 = R 0 → BL R_21 → R0 = f_X6_finds_p21 p1 p2 (f_X6_finds_p13 p1 p2 n_13) n_21 x3_21 x4_21 R_21 → ∀ (H : Heap) (locs : List Loc) (ls : Array Slot), va_P (dC, dI) vwCl (cMd a cI R_21) H → va_D (va_A (cMd a cI R) s.heap.size) (cMd a cI R_21) → va_S (va_A (cMd a cI R) s.heap.size) s.heap H locs → lv_has ls 6 [(0, .ref (a 0)), (1, .int p1), (2, .int p2), (3, .int x3_21), (4, .int x4_21)] → W p l e (headSpec wsX6_finds rm_X6_finds).room s m ([.ref (a 0), .int p1, .int p2] : List Value).toArray below meth c H locs 0 0 (MQ below (va_Qi (fun (r : Int32) (u : SR) => (r, u) = f_X6_finds R p1 p2 ∧ (RA u) ∧ (RS u) ∧ (FX R u) ∧ (u 0 = R 0) ∧ (BL u) ∧ (r = 0 ∨ r = 1)) (fun u U => va_P (dC, dI) vwCl (cMd a cI u) U.heap ∧ va_D (va_A (cMd a cI R) s.heap.size) (cMd a cI u)) (va_A (cMd a cI R) s.heap.size)) ([.ref (a 0), .int p1, .int p2] : List Value).toArray s 0 0 (va_A (cMd a cI R) s.heap.size)) (F0 m 21 ls []) := by
          intro n_21
          induction n_21 with
          | zero =>
            intro j_21 x3_21 x4_21 R_21 ex4_21 hj0_21 hn_21 ex3_21 hI_21 hs_21 hx_21 h0_21 ob_21
            exact absurd hn_21 (by omega)
          | succ n_21 ih_21 =>
            intro j_21 x3_21 x4_21 R_21 ex4_21 hj0_21 hn_21 ex3_21 hI_21 hs_21 hx_21 h0_21 ob_21 hR H locs ls hP hD hS hl
            rw [f_X6_finds_p21] at hR
            refine lv_iload hx hb dX6_finds_21 (lv_at hl 4 rfl) ?_
            refine lv_iconst (v := 4) hx hb dX6_finds_23 (by decide) ?_
            refine lv_icmp_gt (tgt := 71) hx hb dX6_finds_24 (by decide) (fun c18 => ?_) (fun c18 => ?_)
            · rw [if_pos c18] at hR
              refine lv_iinc (v := x3_21 + 1) (lv' := [(3, .int (x3_21 + 1)), (0, .ref (a 0)), (1, .int p1), (2, .int p2), (4, .int x4_21)]) hx hb dX6_finds_71 hl (k := 3) rfl rfl (by decide) rfl (fun ls hl => ?_)
              refine lv_goto (tgt := 13) hx hb dX6_finds_74 (by decide) ?_
              exact ih_13 (j_13 + 1) (x3_21 + 1) R_21 (by rw [ex3_21, nI_1]) (by omega) (by omega) hI_21 hs_21 hx_21 h0_21 ob_21 hR _ _ _ hP hD hS (lv_sub hl [1, 2, 3, 0] rfl)
            · rw [if_neg c18] at hR
              have hj_21 : j_21 < 5 := lp_gt ex4_21 (by decide +kernel) (by omega) (by omega) c18
              refine lv_iconst (v := 0) hx hb dX6_finds_27 (by decide) ?_
              refine lv_istore (lv' := [(5, .int 0), (0, .ref (a 0)), (1, .int p1), (2, .int p2), (3, .int x3_21), (4, .int x4_21)]) hx hb dX6_finds_28 hl (by decide) rfl (fun ls hl => ?_)
              have hL_30 : ∀ n_30 : Nat, ∀ (j_30 : Nat), ∀ (x3_30 : Int32) (x4_30 : Int32) (x5_30 : Int32) (R_30 : SR), x5_30 = nI j_30 → j_30 ≤ 5 → 5 < j_30 + n_30 → x3_30 = nI j_13 → x4_30 = nI j_21 → RA R_30 → RS R_30 → FX R R_30 → R_30 0 = R 0 → BL R_30 → R0 = f_X6_finds_p30 p1 p2 (f_X6_finds_p13 p1 p2 n_13) (f_X6_finds_p21 p1 p2 (f_X6_finds_p13 p1 p2 n_13) n_21) n_30 x3_30 x4_30 x5_30 R_30 → ∀ (H : Heap) (locs : List Loc) (ls : Array Slot), va_P (dC, dI) vwCl (cMd a cI R_30) H → va_D (va_A (cMd a cI R) s.heap.size) (cMd a cI R_30) → va_S (va_A (cMd a cI R) s.heap.size) s.heap H locs → lv_has ls 6 [(0, .ref (a 0)), (1, .int p1), (2, .int p2), (3, .int x3_30), (4, .int x4_30), (5, .int x5_30)] → W p l e (headSpec wsX6_finds rm_X6_finds).room s m ([.ref (a 0), .int p1, .int p2] : List Value).toArray below meth c H locs 0 0 (MQ below (va_Qi (fun (r : Int32) (u : SR) => (r, u) = f_X6_finds R p1 p2 ∧ (RA u) ∧ (RS u) ∧ (FX R u) ∧ (u 0 = R 0) ∧ (BL u) ∧ (r = 0 ∨ r = 1)) (fun u U => va_P (dC, dI) vwCl (cMd a cI u) U.heap ∧ va_D (va_A (cMd a cI R) s.heap.size) (cMd a cI u)) (va_A (cMd a cI R) s.heap.size)) ([.ref (a 0), .int p1, .int p2] : List Value).toArray s 0 0 (va_A (cMd a cI R) s.heap.size)) (F0 m 30 ls []) := by
                intro n_30
                induction n_30 with
                | zero =>
                  intro j_30 x3_30 x4_30 x5_30 R_30 ex5_30 hj0_30 hn_30 ex3_30 ex4_30 hI_30 hs_30 hx_30 h0_30 ob_30
                  exact absurd hn_30 (by omega)
                | succ n_30 ih_30 =>
                  intro j_30 x3_30 x4_30 x5_30 R_30 ex5_30 hj0_30 hn_30 ex3_30 ex4_30 hI_30 hs_30 hx_30 h0_30 ob_30 hR H locs ls hP hD hS hl
                  rw [f_X6_finds_p30] at hR
                  refine lv_iload hx hb dX6_finds_30 (lv_at hl 5 rfl) ?_
                  refine lv_iconst (v := 4) hx hb dX6_finds_32 (by decide) ?_
                  refine lv_icmp_gt (tgt := 65) hx hb dX6_finds_33 (by decide) (fun c19 => ?_) (fun c19 => ?_)
                  · rw [if_pos c19] at hR
                    refine lv_iinc (v := x4_30 + 1) (lv' := [(4, .int (x4_30 + 1)), (0, .ref (a 0)), (1, .int p1), (2, .int p2), (3, .int x3_30), (5, .int x5_30)]) hx hb dX6_finds_65 hl (k := 4) rfl rfl (by decide) rfl (fun ls hl => ?_)
                    refine lv_goto (tgt := 21) hx hb dX6_finds_68 (by decide) ?_
                    exact ih_21 (j_21 + 1) x3_30 (x4_30 + 1) R_30 (by rw [ex4_30, nI_1]) (by omega) (by omega) ex3_30 hI_30 hs_30 hx_30 h0_30 ob_30 hR _ _ _ hP hD hS (lv_sub hl [1, 2, 3, 4, 0] rfl)
                  · rw [if_neg c19] at hR
                    have hj_30 : j_30 < 5 := lp_gt ex5_30 (by decide +kernel) (by omega) (by omega) c19
                    refine lv_iload_n hx hb dX6_finds_36 rfl (lv_at hl 3 rfl) ?_
                    refine lv_iload hx hb dX6_finds_37 (lv_at hl 4 rfl) ?_
                    refine lv_iload hx hb dX6_finds_39 (lv_at hl 5 rfl) ?_
                    refine lv_iload_n hx hb dX6_finds_41 rfl (lv_at hl 2 rfl) ?_
                    have hFc : ∀ q : Nat, va_A [] H.size q → (va_A (cMd a cI R) s.heap.size) q := roF hS hA
                    refine va_calli (va_runS (As := [.int x3_30, .int x4_30, .int x5_30, .int p2]) (rest := []) ⟨hx, hb, hml, hown, hts⟩ (c_X6_areDifferent l dC dI cI cC cS H.size x3_30 x4_30 x5_30 p2) (va_cwS 4 hts gX6_finds_X6_areDifferent rfl rfl rfl (by decide +kernel) ⟨Nat.le_of_ble_eq_true rfl, Nat.le_of_ble_eq_true rfl⟩) (pS hK (va_P_nil) (va_D_nil) hN) rfl rfl hl.1 rfl (lv_room (Nat.le_of_ble_eq_true rfl)) dX6_finds_42 ⟨Nat.le_of_ble_eq_true rfl, Nat.le_of_ble_eq_true rfl⟩) hS (fun q _ h => hFc q h) hFc (fun r_20 u_20 t_20 H21 locs ht hvm hw hB hz1 hk1 hS => ?_)
                    obtain ⟨hw, hre22⟩ := hw
                    subst hw
                    have hP := ro_keep hP hk1
                    refine lv_if_eq (tgt := 59) hx hb dX6_finds_45 (by decide) (fun c23 => ?_) (fun c23 => ?_)
                    · rw [if_pos c23] at hR
                      refine lv_iinc (v := x5_30 + 1) (lv' := [(5, .int (x5_30 + 1)), (0, .ref (a 0)), (1, .int p1), (2, .int p2), (3, .int x3_30), (4, .int x4_30)]) hx hb dX6_finds_59 hl (k := 5) rfl rfl (by decide) rfl (fun ls hl => ?_)
                      refine lv_goto (tgt := 30) hx hb dX6_finds_62 (by decide) ?_
                      exact ih_30 (j_30 + 1) x3_30 x4_30 (x5_30 + 1) R_30 (by rw [ex5_30, nI_1]) (by omega) (by omega) ex3_30 ex4_30 hI_30 hs_30 hx_30 h0_30 ob_30 hR _ _ _ hP hD hS (lv_sub hl [1, 2, 3, 4, 5, 0] rfl)
                    · rw [if_neg c23] at hR
                      refine lv_aload_n hx hb dX6_finds_48 rfl (lv_at hl 0 rfl) ?_
                      refine lv_iload_n hx hb dX6_finds_49 rfl (lv_at hl 1 rfl) ?_
                      refine lv_iload_n hx hb dX6_finds_50 rfl (lv_at hl 3 rfl) ?_
                      refine lv_iload hx hb dX6_finds_51 (lv_at hl 4 rfl) ?_
                      refine lv_iload hx hb dX6_finds_53 (lv_at hl 5 rfl) ?_
                      refine lv_iload_n hx hb dX6_finds_55 rfl (lv_at hl 2 rfl) ?_
                      have hPc : va_P (dC, dI) vwCl (cMd a cI R_30) H21 := hP.sub [0, 1, 2, 3, 4, 5, 6] rfl
                      have hDc : va_D (va_A (cMd a cI R) s.heap.size) (cMd a cI R_30) := hD.sub [0, 1, 2, 3, 4, 5, 6] (by decide) rfl
                      have hFc : ∀ q : Nat, va_A (cMd a cI R_30) H21.size q → (va_A (cMd a cI R) s.heap.size) q := va_free hD hS hA [0, 1, 2, 3, 4, 5, 6] rfl
                      refine va_callv (va_runV (As := [.int p1, .int x3_30, .int x4_30, .int x5_30, .int p2]) (rest := []) ⟨hx, hb, hml, hown, hts⟩ (c_X6_tries l dC dI cI cC cS a R_30 H21.size p1 x3_30 x4_30 x5_30 p2 h1 (by rw [ex3_30]; exact vp_of_B (ix_10 j_13 hj_13)) (by rw [ex4_30]; exact vp_of_B (ix_10 j_21 hj_21)) (by rw [ex5_30]; exact vp_of_B (ix_10 j_30 hj_30)) h2 hI_30 hs_30 ob_30) (cwV 5 hts gX6_finds_X6_tries rfl rfl rfl (by decide +kernel) ⟨Nat.le_of_ble_eq_true rfl, Nat.le_of_ble_eq_true rfl⟩) (pV (q0 := 0) hK hPc hDc hN rfl rfl) rfl rfl hl.1 rfl (lv_room (Nat.le_of_ble_eq_true rfl)) dX6_finds_56 ⟨Nat.le_of_ble_eq_true rfl, Nat.le_of_ble_eq_true rfl⟩) hS (fun q _ h => hFc q h) hFc (fun u_24 t_24 H25 locs ht hvm hw hB hz1 hk1 hS => ?_)
                      obtain ⟨hw, hens26, hens27, hens28, hens29, hens30⟩ := hw
                      obtain ⟨hP1, hD1⟩ := hB
                      rw [ht] at hP1
                      subst hw
                      obtain ⟨hP, hD⟩ := va_join (wc := cMd a cI R_30) (wr := []) (w1 := cMd a cI (f_X6_tries R_30 p1 x3_30 x4_30 x5_30 p2)) hP hD [0, 1, 2, 3, 4, 5, 6] [] rfl rfl (by decide) (by decide) hk1 hFc hP1 hD1
                      have hP : va_P (dC, dI) vwCl (cMd a cI (f_X6_tries R_30 p1 x3_30 x4_30 x5_30 p2)) H25 := hP.sub [0, 1, 2, 3, 4, 5, 6] rfl
                      have hD : va_D (va_A (cMd a cI R) s.heap.size) (cMd a cI (f_X6_tries R_30 p1 x3_30 x4_30 x5_30 p2)) := hD.sub [0, 1, 2, 3, 4, 5, 6] (by decide) rfl
                      obtain ⟨Rn31, eRn31⟩ : ∃ z : SR, z = (f_X6_tries R_30 p1 x3_30 x4_30 x5_30 p2) := ⟨_, rfl⟩
                      rw [sLet_eq, ← eRn31] at hR
                      rw [← eRn31] at hP hD
                      have hI32 : RA Rn31 := by rw [eRn31]; exact hens26
                      have hs33 : RS Rn31 := by rw [eRn31]; exact hens27
                      have hx34 : FX R Rn31 := (by rw [eRn31]; exact fx_tr hx_30 hens28)
                      have h035 : Rn31 0 = R 0 := (by rw [eRn31, hens29]; exact h0_30)
                      have ob36 : BL Rn31 := by rw [eRn31]; exact hens30
                      have hq37 : FX R_30 Rn31 := by rw [eRn31]; exact hens28
                      refine lv_iinc (v := x5_30 + 1) (lv' := [(5, .int (x5_30 + 1)), (0, .ref (a 0)), (1, .int p1), (2, .int p2), (3, .int x3_30), (4, .int x4_30)]) hx hb dX6_finds_59 hl (k := 5) rfl rfl (by decide) rfl (fun ls hl => ?_)
                      refine lv_goto (tgt := 30) hx hb dX6_finds_62 (by decide) ?_
                      exact ih_30 (j_30 + 1) x3_30 x4_30 (x5_30 + 1) Rn31 (by rw [ex5_30, nI_1]) (by omega) (by omega) ex3_30 ex4_30 hI32 hs33 hx34 h035 ob36 hR _ _ _ hP hD hS (lv_sub hl [1, 2, 3, 4, 5, 0] rfl)
              exact hL_30 6 0 x3_21 x4_21 0 R_21 (by decide +kernel) (by decide) (by decide) ex3_21 ex4_21 hI_21 hs_21 hx_21 h0_21 ob_21 hR _ _ _ hP hD hS (lv_sub hl [1, 2, 3, 4, 5, 0] rfl)
        exact hL_21 6 0 x3_13 0 R_13 (by decide +kernel) (by decide) (by decide) ex3_13 hI_13 hs_13 hx_13 h0_13 ob_13 hR _ _ _ hP hD hS (lv_sub hl [1, 2, 3, 4, 0] rfl)
  exact hL_13 6 0 0 Rn10 (by decide +kernel) (by decide) (by decide) hI11 hs12 hx13 h014 ob15 hR _ _ _ hP hD hS (lv_sub hl [1, 2, 3, 0] rfl)
abbrev rm_X6_path : Room := { frames := 7, cells := 0, slots := 0, locals := 162 }
def f_X6_path (R : SR) (p1 : Int32) (p2 : Int32) (p3 : Int32) : Int32 × SR := sLet (sU R 6 0 0) (fun Rn2 : SR => (if (f_X6_isChannel p1) = 0 then ((-1), Rn2) else (if (f_X6_isFour p2) = 0 then ((-1), Rn2) else (if (-1) ≤ p3 then sLet ((f_X6_finds Rn2 p1 p2).2) (fun Rn24 : SR => (if ((f_X6_finds Rn2 p1 p2).1) = 0 then ((-99), Rn24) else (if p3 < (Rn24 6 7) then (if 0 ≤ p3 then (Rn24 5 p3.toNatClampNeg, Rn24) else (Rn24 6 7, Rn24)) else ((-99), Rn24)))) else ((-1), Rn2)))))
set_option maxHeartbeats 4000000 in
set_option maxRecDepth 100000 in
theorem c_X6_path (l : Launch) (dC : Nat → ClassId) (dI : Nat → Nat → Nat) (cI cC cS : ClassId) (a : Nat → Nat) (R : SR) (sz : Nat) (p1 : Int32) (p2 : Int32) (p3 : Int32) (hI : RA R) (hs : RS R) : Met l yX6_path wsX6_path rm_X6_path (PcG (dC, dI) (tyL cI cC cS) (cMd a cI R) sz [.ref (a 0), .int p1, .int p2, .int p3]) (va_Qi (fun (r : Int32) (u : SR) => (r, u) = f_X6_path R p1 p2 p3 ∧ (RA u) ∧ (RS u) ∧ (FX R u) ∧ (u 0 = R 0)) (fun u U => va_P (dC, dI) vwCl (cMd a cI u) U.heap ∧ va_D (va_A (cMd a cI R) sz) (cMd a cI u)) (va_A (cMd a cI R) sz)) 0 0 (va_A (cMd a cI R) sz) := by
  refine Met.ofW (cc := cX6_path) (maxL := 4) (ret := (some .int)) (by decide) rfl ?_
  intro p e s m args below meth c s₁ B hml hv
  obtain ⟨rfl, hsz, hP, hK, hD0, hN⟩ := hv
  have hx := B.exec
  have hb := B.bytes
  have hr := B.returns
  have hts := atoms_spec (ws := wsX6_path) B.pre
  have hown : s.vm.findClass RX6 = some m.cls := findClass_of_methodNamed B.named
  have hlocks := B.notSynchronized
  subst hsz
  have hD := hD0.self (sz := s.heap.size)
  have hA : ∀ q : Nat, s.heap.size ≤ q → (va_A (cMd a cI R) s.heap.size) q := fun q h => Or.inr h
  have hS : va_S (va_A (cMd a cI R) s.heap.size) s.heap s.heap [] := va_S.rf
  have hin6 : ∀ w ∈ wsX60, w ∈ wsX6_path := fun _ h => List.mem_cons_of_mem _ (List.mem_append_right _ h)
  have hx_0 : FX R R := fx_rf
  have h0_0 : R 0 = R 0 := rfl
  have hl := lv_entry [.ref (a 0), .int p1, .int p2, .int p3] (n := 4) (Nat.le_of_ble_eq_true rfl)
  rw [lg_entry_eq]
  generalize (lg_sl [.ref (a 0), .int p1, .int p2, .int p3] ++ List.replicate (4 - (lg_sl [.ref (a 0), .int p1, .int p2, .int p3]).length) Slot.unset).toArray = ls at hl ⊢
  have hl : lv_has ls 4 [(0, .ref (a 0)), (1, .int p1), (2, .int p2), (3, .int p3)] := hl
  obtain ⟨R0, eR⟩ : ∃ z, z = f_X6_path R p1 p2 p3 := ⟨_, rfl⟩
  have hR := eR
  rw [f_X6_path] at hR
  refine lv_aload_n hx hb dX6_path_0 rfl (lv_at hl 0 rfl) ?_
  refine lv_iconst (v := 0) hx hb dX6_path_1 (by decide) ?_
  refine va_put (D := (dC, dI)) (ci := 6) (v := .int 0) (ty := .int) (C := RX6) (T := TX6) (N := 15) hx hb hts hin6 tyX6 tyX6_ok nmX6 hown hK hP hD hS 0 rfl rfl 0 (by decide) (hts (.fieldLink RX6 28 "FeedDeskModel" "thrown" "I") (List.mem_of_getElem? (i := 1) rfl)) (fun _ h9 => h9) rfl (by decide +kernel) rfl rfl (Nat.le_of_ble_eq_true rfl) dX6_path_2 (fun H1 locs hP hD hS => ?_)
  have hP : va_P (dC, dI) vwCl (cMd a cI (sU R 6 0 0)) H1 := hP
  have hD : va_D (va_A (cMd a cI R) s.heap.size) (cMd a cI (sU R 6 0 0)) := hD
  obtain ⟨Rn2, eRn2⟩ : ∃ z : SR, z = sU R 6 0 0 := ⟨_, rfl⟩
  rw [sLet_eq, ← eRn2] at hR
  rw [← eRn2] at hP hD
  have hI3 : RA Rn2 := (by rw [eRn2]; exact hI)
  have hs4 : RS Rn2 := (by rw [eRn2]; exact hs)
  have hx5 : FX R Rn2 := (by rw [eRn2]; exact hx_0)
  have h06 : Rn2 0 = R 0 := (by rw [eRn2]; exact h0_0)
  refine lv_iload_n hx hb dX6_path_5 rfl (lv_at hl 1 rfl) ?_
  have hFc : ∀ q : Nat, va_A [] H1.size q → (va_A (cMd a cI R) s.heap.size) q := roF hS hA
  refine va_calli (va_runS (As := [.int p1]) (rest := []) ⟨hx, hb, hml, hown, hts⟩ (c_X6_isChannel l dC dI cI cC cS H1.size p1) (va_cwS 1 hts gX6_path_X6_isChannel rfl rfl rfl (by decide +kernel) ⟨Nat.le_of_ble_eq_true rfl, Nat.le_of_ble_eq_true rfl⟩) (pS hK (va_P_nil) (va_D_nil) hN) rfl rfl hl.1 rfl (lv_room (Nat.le_of_ble_eq_true rfl)) dX6_path_6 ⟨Nat.le_of_ble_eq_true rfl, Nat.le_of_ble_eq_true rfl⟩) hS (fun q _ h => hFc q h) hFc (fun r_7 u_7 t_7 H8 locs ht hvm hw hB hz1 hk1 hS => ?_)
  obtain ⟨hw, hre9⟩ := hw
  subst hw
  have hP := ro_keep hP hk1
  refine lv_if_eq (tgt := 24) hx hb dX6_path_9 (by decide) (fun c10 => ?_) (fun c10 => ?_)
  · rw [if_pos c10] at hR
    refine lv_iconst (v := (-1)) hx hb dX6_path_24 (by decide) ?_
    exact W.iret (v := (-1)) hx hb hr (fun t ht hWw => ⟨⟨(-1), Rn2, rfl, ⟨hR.symm.trans eR, hI3, hs4, hx5, h06⟩, by rw [ht]; exact hP, hD⟩, hS.F ht⟩) hS.2.2 dX6_path_25
  · rw [if_neg c10] at hR
    refine lv_iload_n hx hb dX6_path_12 rfl (lv_at hl 2 rfl) ?_
    have hFc : ∀ q : Nat, va_A [] H8.size q → (va_A (cMd a cI R) s.heap.size) q := roF hS hA
    refine va_calli (va_runS (As := [.int p2]) (rest := []) ⟨hx, hb, hml, hown, hts⟩ (c_X6_isFour l dC dI cI cC cS H8.size p2) (va_cwS 1 hts gX6_path_X6_isFour rfl rfl rfl (by decide +kernel) ⟨Nat.le_of_ble_eq_true rfl, Nat.le_of_ble_eq_true rfl⟩) (pS hK (va_P_nil) (va_D_nil) hN) rfl rfl hl.1 rfl (lv_room (Nat.le_of_ble_eq_true rfl)) dX6_path_13 ⟨Nat.le_of_ble_eq_true rfl, Nat.le_of_ble_eq_true rfl⟩) hS (fun q _ h => hFc q h) hFc (fun r_11 u_11 t_11 H12 locs ht hvm hw hB hz1 hk1 hS => ?_)
    obtain ⟨hw, hre13⟩ := hw
    subst hw
    have hP := ro_keep hP hk1
    refine lv_if_eq (tgt := 24) hx hb dX6_path_16 (by decide) (fun c14 => ?_) (fun c14 => ?_)
    · rw [if_pos c14] at hR
      refine lv_iconst (v := (-1)) hx hb dX6_path_24 (by decide) ?_
      exact W.iret (v := (-1)) hx hb hr (fun t ht hWw => ⟨⟨(-1), Rn2, rfl, ⟨hR.symm.trans eR, hI3, hs4, hx5, h06⟩, by rw [ht]; exact hP, hD⟩, hS.F ht⟩) hS.2.2 dX6_path_25
    · rw [if_neg c14] at hR
      refine lv_iload_n hx hb dX6_path_19 rfl (lv_at hl 3 rfl) ?_
      refine lv_iconst (v := (-1)) hx hb dX6_path_20 (by decide) ?_
      refine lv_icmp_ge (tgt := 26) hx hb dX6_path_21 (by decide) (fun c15 => ?_) (fun c15 => ?_)
      · rw [if_pos c15] at hR
        refine lv_aload_n hx hb dX6_path_26 rfl (lv_at hl 0 rfl) ?_
        refine lv_iload_n hx hb dX6_path_27 rfl (lv_at hl 1 rfl) ?_
        refine lv_iload_n hx hb dX6_path_28 rfl (lv_at hl 2 rfl) ?_
        have hPc : va_P (dC, dI) vwCl (cMd a cI Rn2) H12 := hP.sub [0, 1, 2, 3, 4, 5, 6] rfl
        have hDc : va_D (va_A (cMd a cI R) s.heap.size) (cMd a cI Rn2) := hD.sub [0, 1, 2, 3, 4, 5, 6] (by decide) rfl
        have hFc : ∀ q : Nat, va_A (cMd a cI Rn2) H12.size q → (va_A (cMd a cI R) s.heap.size) q := va_free hD hS hA [0, 1, 2, 3, 4, 5, 6] rfl
        refine va_calli (va_runV (As := [.int p1, .int p2]) (rest := []) ⟨hx, hb, hml, hown, hts⟩ (c_X6_finds l dC dI cI cC cS a Rn2 H12.size p1 p2 (ch_vp c10) (four_vp c14) hI3 hs4) (cwV 2 hts gX6_path_X6_finds rfl rfl rfl (by decide +kernel) ⟨Nat.le_of_ble_eq_true rfl, Nat.le_of_ble_eq_true rfl⟩) (pV (q0 := 0) hK hPc hDc hN rfl rfl) rfl rfl hl.1 rfl (lv_room (Nat.le_of_ble_eq_true rfl)) dX6_path_29 ⟨Nat.le_of_ble_eq_true rfl, Nat.le_of_ble_eq_true rfl⟩) hS (fun q _ h => hFc q h) hFc (fun r_16 u_16 t_16 H17 locs ht hvm hw hB hz1 hk1 hS => ?_)
        obtain ⟨hw, hens18, hens19, hens20, hens21, hens22, hens23⟩ := hw
        obtain ⟨hP1, hD1⟩ := hB
        rw [ht] at hP1
        have hw1 : r_16 = (f_X6_finds Rn2 p1 p2).1 := congrArg Prod.fst hw
        have hw2 : u_16 = (f_X6_finds Rn2 p1 p2).2 := congrArg Prod.snd hw
        clear hw
        subst hw1
        subst hw2
        obtain ⟨hP, hD⟩ := va_join (wc := cMd a cI Rn2) (wr := []) (w1 := cMd a cI ((f_X6_finds Rn2 p1 p2).2)) hP hD [0, 1, 2, 3, 4, 5, 6] [] rfl rfl (by decide) (by decide) hk1 hFc hP1 hD1
        have hP : va_P (dC, dI) vwCl (cMd a cI ((f_X6_finds Rn2 p1 p2).2)) H17 := hP.sub [0, 1, 2, 3, 4, 5, 6] rfl
        have hD : va_D (va_A (cMd a cI R) s.heap.size) (cMd a cI ((f_X6_finds Rn2 p1 p2).2)) := hD.sub [0, 1, 2, 3, 4, 5, 6] (by decide) rfl
        obtain ⟨Rn24, eRn24⟩ : ∃ z : SR, z = (f_X6_finds Rn2 p1 p2).2 := ⟨_, rfl⟩
        rw [sLet_eq, ← eRn24] at hR
        rw [← eRn24] at hP hD
        have hI25 : RA Rn24 := by rw [eRn24]; exact hens18
        have hs26 : RS Rn24 := by rw [eRn24]; exact hens19
        have hx27 : FX R Rn24 := (by rw [eRn24]; exact fx_tr hx5 hens20)
        have h028 : Rn24 0 = R 0 := (by rw [eRn24, hens21]; exact h06)
        have hq29 : FX Rn2 Rn24 := by rw [eRn24]; exact hens20
        have hq30 : BL Rn24 := by rw [eRn24]; exact hens22
        refine lv_if_eq (tgt := 43) hx hb dX6_path_32 (by decide) (fun c31 => ?_) (fun c31 => ?_)
        · rw [if_pos c31] at hR
          refine lv_bipush (v := (-99)) hx hb dX6_path_43 (by decide) ?_
          exact W.iret (v := (-99)) hx hb hr (fun t ht hWw => ⟨⟨(-99), Rn24, rfl, ⟨hR.symm.trans eR, hI25, hs26, hx27, h028⟩, by rw [ht]; exact hP, hD⟩, hS.F ht⟩) hS.2.2 dX6_path_45
        · rw [if_neg c31] at hR
          refine lv_iload_n hx hb dX6_path_35 rfl (lv_at hl 3 rfl) ?_
          refine lv_aload_n hx hb dX6_path_36 rfl (lv_at hl 0 rfl) ?_
          refine va_get (D := (dC, dI)) (ci := 6) (v := .int (Rn24 6 7)) (C := RX6) (T := TX6) (N := 15) hx hb hts hin6 hown hK hP 0 rfl rfl 13 (by decide) (hts (.fieldLink RX6 187 "FeedDeskModel" "bestLength" "I") (List.mem_of_getElem? (i := 2) rfl)) (fun _ h9 => h9) rfl dX6_path_37 ?_
          refine lv_icmp_lt (tgt := 46) hx hb dX6_path_40 (by decide) (fun c32 => ?_) (fun c32 => ?_)
          · rw [if_pos c32] at hR
            refine lv_iload_n hx hb dX6_path_46 rfl (lv_at hl 3 rfl) ?_
            refine lv_if_ge (tgt := 57) hx hb dX6_path_47 (by decide) (fun c33 => ?_) (fun c33 => ?_)
            · rw [if_pos c33] at hR
              refine lv_aload_n hx hb dX6_path_57 rfl (lv_at hl 0 rfl) ?_
              refine va_get (D := (dC, dI)) (ci := 6) (v := .ref (a 6)) (C := RX6) (T := TX6) (N := 15) hx hb hts hin6 hown hK hP 0 rfl rfl 10 (by decide) (hts (.fieldLink RX6 25 "FeedDeskModel" "best" "[I") (List.mem_of_getElem? (i := 3) rfl)) (fun _ h9 => h9) rfl dX6_path_58 ?_
              refine lv_iload_n hx hb dX6_path_61 rfl (lv_at hl 3 rfl) ?_
              refine va_iald (f := Rn24 5) hx hb hK hP 6 0 rfl rfl (bl_in0 hq30 c33 c32) dX6_path_62 ?_
              exact W.iret (v := Rn24 5 p3.toNatClampNeg) hx hb hr (fun t ht hWw => ⟨⟨Rn24 5 p3.toNatClampNeg, Rn24, rfl, ⟨hR.symm.trans eR, hI25, hs26, hx27, h028⟩, by rw [ht]; exact hP, hD⟩, hS.F ht⟩) hS.2.2 dX6_path_63
            · rw [if_neg c33] at hR
              refine lv_aload_n hx hb dX6_path_50 rfl (lv_at hl 0 rfl) ?_
              refine va_get (D := (dC, dI)) (ci := 6) (v := .int (Rn24 6 7)) (C := RX6) (T := TX6) (N := 15) hx hb hts hin6 hown hK hP 0 rfl rfl 13 (by decide) (hts (.fieldLink RX6 187 "FeedDeskModel" "bestLength" "I") (List.mem_of_getElem? (i := 2) rfl)) (fun _ h9 => h9) rfl dX6_path_51 ?_
              refine lv_goto (tgt := 63) hx hb dX6_path_54 (by decide) ?_
              exact W.iret (v := Rn24 6 7) hx hb hr (fun t ht hWw => ⟨⟨Rn24 6 7, Rn24, rfl, ⟨hR.symm.trans eR, hI25, hs26, hx27, h028⟩, by rw [ht]; exact hP, hD⟩, hS.F ht⟩) hS.2.2 dX6_path_63
          · rw [if_neg c32] at hR
            refine lv_bipush (v := (-99)) hx hb dX6_path_43 (by decide) ?_
            exact W.iret (v := (-99)) hx hb hr (fun t ht hWw => ⟨⟨(-99), Rn24, rfl, ⟨hR.symm.trans eR, hI25, hs26, hx27, h028⟩, by rw [ht]; exact hP, hD⟩, hS.F ht⟩) hS.2.2 dX6_path_45
      · rw [if_neg c15] at hR
        refine lv_iconst (v := (-1)) hx hb dX6_path_24 (by decide) ?_
        exact W.iret (v := (-1)) hx hb hr (fun t ht hWw => ⟨⟨(-1), Rn2, rfl, ⟨hR.symm.trans eR, hI3, hs4, hx5, h06⟩, by rw [ht]; exact hP, hD⟩, hS.F ht⟩) hS.2.2 dX6_path_25
abbrev rm_X6_loudest : Room := { frames := 7, cells := 0, slots := 0, locals := 162 }
def f_X6_loudest (R : SR) (p1 : Int32) (p2 : Int32) : Int32 × SR := sLet (sU R 6 0 0) (fun Rn2 : SR => (if (f_X6_isChannel p1) = 0 then ((-1), Rn2) else (if (f_X6_isFour p2) = 0 then ((-1), Rn2) else sLet ((f_X6_finds Rn2 p1 p2).2) (fun Rn23 : SR => (if ((f_X6_finds Rn2 p1 p2).1) = 0 then ((-99), Rn23) else (Rn23 6 8, Rn23))))))
set_option maxHeartbeats 4000000 in
set_option maxRecDepth 100000 in
theorem c_X6_loudest (l : Launch) (dC : Nat → ClassId) (dI : Nat → Nat → Nat) (cI cC cS : ClassId) (a : Nat → Nat) (R : SR) (sz : Nat) (p1 : Int32) (p2 : Int32) (hI : RA R) (hs : RS R) : Met l yX6_loudest wsX6_loudest rm_X6_loudest (PcG (dC, dI) (tyL cI cC cS) (cMd a cI R) sz [.ref (a 0), .int p1, .int p2]) (va_Qi (fun (r : Int32) (u : SR) => (r, u) = f_X6_loudest R p1 p2 ∧ (RA u) ∧ (RS u) ∧ (FX R u) ∧ (u 0 = R 0)) (fun u U => va_P (dC, dI) vwCl (cMd a cI u) U.heap ∧ va_D (va_A (cMd a cI R) sz) (cMd a cI u)) (va_A (cMd a cI R) sz)) 0 0 (va_A (cMd a cI R) sz) := by
  refine Met.ofW (cc := cX6_loudest) (maxL := 3) (ret := (some .int)) (by decide) rfl ?_
  intro p e s m args below meth c s₁ B hml hv
  obtain ⟨rfl, hsz, hP, hK, hD0, hN⟩ := hv
  have hx := B.exec
  have hb := B.bytes
  have hr := B.returns
  have hts := atoms_spec (ws := wsX6_loudest) B.pre
  have hown : s.vm.findClass RX6 = some m.cls := findClass_of_methodNamed B.named
  have hlocks := B.notSynchronized
  subst hsz
  have hD := hD0.self (sz := s.heap.size)
  have hA : ∀ q : Nat, s.heap.size ≤ q → (va_A (cMd a cI R) s.heap.size) q := fun q h => Or.inr h
  have hS : va_S (va_A (cMd a cI R) s.heap.size) s.heap s.heap [] := va_S.rf
  have hin6 : ∀ w ∈ wsX60, w ∈ wsX6_loudest := fun _ h => List.mem_cons_of_mem _ (List.mem_append_right _ h)
  have hx_0 : FX R R := fx_rf
  have h0_0 : R 0 = R 0 := rfl
  have hl := lv_entry [.ref (a 0), .int p1, .int p2] (n := 3) (Nat.le_of_ble_eq_true rfl)
  rw [lg_entry_eq]
  generalize (lg_sl [.ref (a 0), .int p1, .int p2] ++ List.replicate (3 - (lg_sl [.ref (a 0), .int p1, .int p2]).length) Slot.unset).toArray = ls at hl ⊢
  have hl : lv_has ls 3 [(0, .ref (a 0)), (1, .int p1), (2, .int p2)] := hl
  obtain ⟨R0, eR⟩ : ∃ z, z = f_X6_loudest R p1 p2 := ⟨_, rfl⟩
  have hR := eR
  rw [f_X6_loudest] at hR
  refine lv_aload_n hx hb dX6_loudest_0 rfl (lv_at hl 0 rfl) ?_
  refine lv_iconst (v := 0) hx hb dX6_loudest_1 (by decide) ?_
  refine va_put (D := (dC, dI)) (ci := 6) (v := .int 0) (ty := .int) (C := RX6) (T := TX6) (N := 15) hx hb hts hin6 tyX6 tyX6_ok nmX6 hown hK hP hD hS 0 rfl rfl 0 (by decide) (hts (.fieldLink RX6 28 "FeedDeskModel" "thrown" "I") (List.mem_of_getElem? (i := 1) rfl)) (fun _ h9 => h9) rfl (by decide +kernel) rfl rfl (Nat.le_of_ble_eq_true rfl) dX6_loudest_2 (fun H1 locs hP hD hS => ?_)
  have hP : va_P (dC, dI) vwCl (cMd a cI (sU R 6 0 0)) H1 := hP
  have hD : va_D (va_A (cMd a cI R) s.heap.size) (cMd a cI (sU R 6 0 0)) := hD
  obtain ⟨Rn2, eRn2⟩ : ∃ z : SR, z = sU R 6 0 0 := ⟨_, rfl⟩
  rw [sLet_eq, ← eRn2] at hR
  rw [← eRn2] at hP hD
  have hI3 : RA Rn2 := (by rw [eRn2]; exact hI)
  have hs4 : RS Rn2 := (by rw [eRn2]; exact hs)
  have hx5 : FX R Rn2 := (by rw [eRn2]; exact hx_0)
  have h06 : Rn2 0 = R 0 := (by rw [eRn2]; exact h0_0)
  refine lv_iload_n hx hb dX6_loudest_5 rfl (lv_at hl 1 rfl) ?_
  have hFc : ∀ q : Nat, va_A [] H1.size q → (va_A (cMd a cI R) s.heap.size) q := roF hS hA
  refine va_calli (va_runS (As := [.int p1]) (rest := []) ⟨hx, hb, hml, hown, hts⟩ (c_X6_isChannel l dC dI cI cC cS H1.size p1) (va_cwS 1 hts gX6_loudest_X6_isChannel rfl rfl rfl (by decide +kernel) ⟨Nat.le_of_ble_eq_true rfl, Nat.le_of_ble_eq_true rfl⟩) (pS hK (va_P_nil) (va_D_nil) hN) rfl rfl hl.1 rfl (lv_room (Nat.le_of_ble_eq_true rfl)) dX6_loudest_6 ⟨Nat.le_of_ble_eq_true rfl, Nat.le_of_ble_eq_true rfl⟩) hS (fun q _ h => hFc q h) hFc (fun r_7 u_7 t_7 H8 locs ht hvm hw hB hz1 hk1 hS => ?_)
  obtain ⟨hw, hre9⟩ := hw
  subst hw
  have hP := ro_keep hP hk1
  refine lv_if_eq (tgt := 19) hx hb dX6_loudest_9 (by decide) (fun c10 => ?_) (fun c10 => ?_)
  · rw [if_pos c10] at hR
    refine lv_iconst (v := (-1)) hx hb dX6_loudest_19 (by decide) ?_
    exact W.iret (v := (-1)) hx hb hr (fun t ht hWw => ⟨⟨(-1), Rn2, rfl, ⟨hR.symm.trans eR, hI3, hs4, hx5, h06⟩, by rw [ht]; exact hP, hD⟩, hS.F ht⟩) hS.2.2 dX6_loudest_20
  · rw [if_neg c10] at hR
    refine lv_iload_n hx hb dX6_loudest_12 rfl (lv_at hl 2 rfl) ?_
    have hFc : ∀ q : Nat, va_A [] H8.size q → (va_A (cMd a cI R) s.heap.size) q := roF hS hA
    refine va_calli (va_runS (As := [.int p2]) (rest := []) ⟨hx, hb, hml, hown, hts⟩ (c_X6_isFour l dC dI cI cC cS H8.size p2) (va_cwS 1 hts gX6_loudest_X6_isFour rfl rfl rfl (by decide +kernel) ⟨Nat.le_of_ble_eq_true rfl, Nat.le_of_ble_eq_true rfl⟩) (pS hK (va_P_nil) (va_D_nil) hN) rfl rfl hl.1 rfl (lv_room (Nat.le_of_ble_eq_true rfl)) dX6_loudest_13 ⟨Nat.le_of_ble_eq_true rfl, Nat.le_of_ble_eq_true rfl⟩) hS (fun q _ h => hFc q h) hFc (fun r_11 u_11 t_11 H12 locs ht hvm hw hB hz1 hk1 hS => ?_)
    obtain ⟨hw, hre13⟩ := hw
    subst hw
    have hP := ro_keep hP hk1
    refine lv_if_ne (tgt := 21) hx hb dX6_loudest_16 (by decide) (fun c14 => ?_) (fun c14 => ?_)
    · rw [if_neg c14] at hR
      refine lv_aload_n hx hb dX6_loudest_21 rfl (lv_at hl 0 rfl) ?_
      refine lv_iload_n hx hb dX6_loudest_22 rfl (lv_at hl 1 rfl) ?_
      refine lv_iload_n hx hb dX6_loudest_23 rfl (lv_at hl 2 rfl) ?_
      have hPc : va_P (dC, dI) vwCl (cMd a cI Rn2) H12 := hP.sub [0, 1, 2, 3, 4, 5, 6] rfl
      have hDc : va_D (va_A (cMd a cI R) s.heap.size) (cMd a cI Rn2) := hD.sub [0, 1, 2, 3, 4, 5, 6] (by decide) rfl
      have hFc : ∀ q : Nat, va_A (cMd a cI Rn2) H12.size q → (va_A (cMd a cI R) s.heap.size) q := va_free hD hS hA [0, 1, 2, 3, 4, 5, 6] rfl
      refine va_calli (va_runV (As := [.int p1, .int p2]) (rest := []) ⟨hx, hb, hml, hown, hts⟩ (c_X6_finds l dC dI cI cC cS a Rn2 H12.size p1 p2 (ch_vp c10) (four_vp c14) hI3 hs4) (cwV 2 hts gX6_loudest_X6_finds rfl rfl rfl (by decide +kernel) ⟨Nat.le_of_ble_eq_true rfl, Nat.le_of_ble_eq_true rfl⟩) (pV (q0 := 0) hK hPc hDc hN rfl rfl) rfl rfl hl.1 rfl (lv_room (Nat.le_of_ble_eq_true rfl)) dX6_loudest_24 ⟨Nat.le_of_ble_eq_true rfl, Nat.le_of_ble_eq_true rfl⟩) hS (fun q _ h => hFc q h) hFc (fun r_15 u_15 t_15 H16 locs ht hvm hw hB hz1 hk1 hS => ?_)
      obtain ⟨hw, hens17, hens18, hens19, hens20, hens21, hens22⟩ := hw
      obtain ⟨hP1, hD1⟩ := hB
      rw [ht] at hP1
      have hw1 : r_15 = (f_X6_finds Rn2 p1 p2).1 := congrArg Prod.fst hw
      have hw2 : u_15 = (f_X6_finds Rn2 p1 p2).2 := congrArg Prod.snd hw
      clear hw
      subst hw1
      subst hw2
      obtain ⟨hP, hD⟩ := va_join (wc := cMd a cI Rn2) (wr := []) (w1 := cMd a cI ((f_X6_finds Rn2 p1 p2).2)) hP hD [0, 1, 2, 3, 4, 5, 6] [] rfl rfl (by decide) (by decide) hk1 hFc hP1 hD1
      have hP : va_P (dC, dI) vwCl (cMd a cI ((f_X6_finds Rn2 p1 p2).2)) H16 := hP.sub [0, 1, 2, 3, 4, 5, 6] rfl
      have hD : va_D (va_A (cMd a cI R) s.heap.size) (cMd a cI ((f_X6_finds Rn2 p1 p2).2)) := hD.sub [0, 1, 2, 3, 4, 5, 6] (by decide) rfl
      obtain ⟨Rn23, eRn23⟩ : ∃ z : SR, z = (f_X6_finds Rn2 p1 p2).2 := ⟨_, rfl⟩
      rw [sLet_eq, ← eRn23] at hR
      rw [← eRn23] at hP hD
      have hI24 : RA Rn23 := by rw [eRn23]; exact hens17
      have hs25 : RS Rn23 := by rw [eRn23]; exact hens18
      have hx26 : FX R Rn23 := (by rw [eRn23]; exact fx_tr hx5 hens19)
      have h027 : Rn23 0 = R 0 := (by rw [eRn23, hens20]; exact h06)
      have hq28 : FX Rn2 Rn23 := by rw [eRn23]; exact hens19
      have hq29 : BL Rn23 := by rw [eRn23]; exact hens21
      refine lv_if_eq (tgt := 37) hx hb dX6_loudest_27 (by decide) (fun c30 => ?_) (fun c30 => ?_)
      · rw [if_pos c30] at hR
        refine lv_bipush (v := (-99)) hx hb dX6_loudest_37 (by decide) ?_
        exact W.iret (v := (-99)) hx hb hr (fun t ht hWw => ⟨⟨(-99), Rn23, rfl, ⟨hR.symm.trans eR, hI24, hs25, hx26, h027⟩, by rw [ht]; exact hP, hD⟩, hS.F ht⟩) hS.2.2 dX6_loudest_39
      · rw [if_neg c30] at hR
        refine lv_aload_n hx hb dX6_loudest_30 rfl (lv_at hl 0 rfl) ?_
        refine va_get (D := (dC, dI)) (ci := 6) (v := .int (Rn23 6 8)) (C := RX6) (T := TX6) (N := 15) hx hb hts hin6 hown hK hP 0 rfl rfl 14 (by decide) (hts (.fieldLink RX6 194 "FeedDeskModel" "bestGain" "I") (List.mem_of_getElem? (i := 2) rfl)) (fun _ h9 => h9) rfl dX6_loudest_31 ?_
        refine lv_goto (tgt := 39) hx hb dX6_loudest_34 (by decide) ?_
        exact W.iret (v := Rn23 6 8) hx hb hr (fun t ht hWw => ⟨⟨Rn23 6 8, Rn23, rfl, ⟨hR.symm.trans eR, hI24, hs25, hx26, h027⟩, by rw [ht]; exact hP, hD⟩, hS.F ht⟩) hS.2.2 dX6_loudest_39
    · rw [if_pos c14] at hR
      refine lv_iconst (v := (-1)) hx hb dX6_loudest_19 (by decide) ?_
      exact W.iret (v := (-1)) hx hb hr (fun t ht hWw => ⟨⟨(-1), Rn2, rfl, ⟨hR.symm.trans eR, hI3, hs4, hx5, h06⟩, by rw [ht]; exact hP, hD⟩, hS.F ht⟩) hS.2.2 dX6_loudest_20
abbrev rm_X6_loops : Room := { frames := 7, cells := 0, slots := 0, locals := 162 }
def f_X6_loops_p9   : Nat → Int32 → Int32 → SR → (Int32 × SR)
  | 0, _, _, R_9 => (0, R_9)
  | n_9 + 1, x1_9, x2_9, R_9 => (if 4 ≤ x2_9 then (x1_9, R_9) else (if (R_9 0 (84 + x2_9).toNatClampNeg) = (-1) then (f_X6_loops_p9 n_9) (x1_9 ||| 0) (x2_9 + 1) R_9 else sLet ((f_X6_finds R_9 (R_9 0 (84 + x2_9).toNatClampNeg) x2_9).2) (fun Rn17 : SR => (if ((f_X6_finds R_9 (R_9 0 (84 + x2_9).toNatClampNeg) x2_9).1) = 0 then (f_X6_loops_p9 n_9) (x1_9 ||| 0) (x2_9 + 1) Rn17 else (f_X6_loops_p9 n_9) (x1_9 ||| (1 <<< (x2_9 &&& 31))) (x2_9 + 1) Rn17))))
def f_X6_loops (R : SR)  : Int32 × SR := sLet (sU R 6 0 0) (fun Rn2 : SR => f_X6_loops_p9 5 0 0 Rn2)
set_option maxHeartbeats 4000000 in
set_option maxRecDepth 100000 in
theorem c_X6_loops (l : Launch) (dC : Nat → ClassId) (dI : Nat → Nat → Nat) (cI cC cS : ClassId) (a : Nat → Nat) (R : SR) (sz : Nat)  (hI : RA R) (hs : RS R) : Met l yX6_loops wsX6_loops rm_X6_loops (PcG (dC, dI) (tyL cI cC cS) (cMd a cI R) sz [.ref (a 0)]) (va_Qi (fun (r : Int32) (u : SR) => (r, u) = f_X6_loops R ∧ (RA u) ∧ (RS u) ∧ (FX R u) ∧ (u 0 = R 0)) (fun u U => va_P (dC, dI) vwCl (cMd a cI u) U.heap ∧ va_D (va_A (cMd a cI R) sz) (cMd a cI u)) (va_A (cMd a cI R) sz)) 0 0 (va_A (cMd a cI R) sz) := by
  refine Met.ofW (cc := cX6_loops) (maxL := 3) (ret := (some .int)) (by decide) rfl ?_
  intro p e s m args below meth c s₁ B hml hv
  obtain ⟨rfl, hsz, hP, hK, hD0, hN⟩ := hv
  have hx := B.exec
  have hb := B.bytes
  have hr := B.returns
  have hts := atoms_spec (ws := wsX6_loops) B.pre
  have hown : s.vm.findClass RX6 = some m.cls := findClass_of_methodNamed B.named
  have hlocks := B.notSynchronized
  subst hsz
  have hD := hD0.self (sz := s.heap.size)
  have hA : ∀ q : Nat, s.heap.size ≤ q → (va_A (cMd a cI R) s.heap.size) q := fun q h => Or.inr h
  have hS : va_S (va_A (cMd a cI R) s.heap.size) s.heap s.heap [] := va_S.rf
  have hin6 : ∀ w ∈ wsX60, w ∈ wsX6_loops := fun _ h => List.mem_cons_of_mem _ (List.mem_append_right _ h)
  have hx_0 : FX R R := fx_rf
  have h0_0 : R 0 = R 0 := rfl
  have hl := lv_entry [.ref (a 0)] (n := 3) (Nat.le_of_ble_eq_true rfl)
  rw [lg_entry_eq]
  generalize (lg_sl [.ref (a 0)] ++ List.replicate (3 - (lg_sl [.ref (a 0)]).length) Slot.unset).toArray = ls at hl ⊢
  have hl : lv_has ls 3 [(0, .ref (a 0))] := hl
  obtain ⟨R0, eR⟩ : ∃ z, z = f_X6_loops R := ⟨_, rfl⟩
  have hR := eR
  rw [f_X6_loops] at hR
  refine lv_aload_n hx hb dX6_loops_0 rfl (lv_at hl 0 rfl) ?_
  refine lv_iconst (v := 0) hx hb dX6_loops_1 (by decide) ?_
  refine va_put (D := (dC, dI)) (ci := 6) (v := .int 0) (ty := .int) (C := RX6) (T := TX6) (N := 15) hx hb hts hin6 tyX6 tyX6_ok nmX6 hown hK hP hD hS 0 rfl rfl 0 (by decide) (hts (.fieldLink RX6 28 "FeedDeskModel" "thrown" "I") (List.mem_of_getElem? (i := 1) rfl)) (fun _ h9 => h9) rfl (by decide +kernel) rfl rfl (Nat.le_of_ble_eq_true rfl) dX6_loops_2 (fun H1 locs hP hD hS => ?_)
  have hP : va_P (dC, dI) vwCl (cMd a cI (sU R 6 0 0)) H1 := hP
  have hD : va_D (va_A (cMd a cI R) s.heap.size) (cMd a cI (sU R 6 0 0)) := hD
  obtain ⟨Rn2, eRn2⟩ : ∃ z : SR, z = sU R 6 0 0 := ⟨_, rfl⟩
  rw [sLet_eq, ← eRn2] at hR
  rw [← eRn2] at hP hD
  have hI3 : RA Rn2 := (by rw [eRn2]; exact hI)
  have hs4 : RS Rn2 := (by rw [eRn2]; exact hs)
  have hx5 : FX R Rn2 := (by rw [eRn2]; exact hx_0)
  have h06 : Rn2 0 = R 0 := (by rw [eRn2]; exact h0_0)
  refine lv_iconst (v := 0) hx hb dX6_loops_5 (by decide) ?_
  refine lv_istore_n (lv' := [(1, .int 0), (0, .ref (a 0))]) hx hb dX6_loops_6 rfl hl (by decide) rfl (fun ls hl => ?_)
  refine lv_iconst (v := 0) hx hb dX6_loops_7 (by decide) ?_
  refine lv_istore_n (lv' := [(2, .int 0), (1, .int 0), (0, .ref (a 0))]) hx hb dX6_loops_8 rfl hl (by decide) rfl (fun ls hl => ?_)
  have hL_9 : ∀ n_9 : Nat, ∀ (j_9 : Nat), ∀ (x1_9 : Int32) (x2_9 : Int32) (R_9 : SR), x2_9 = nI j_9 → j_9 ≤ 4 → 4 < j_9 + n_9 → RA R_9 → RS R_9 → FX R R_9 → R_9 0 = R 0 → R0 = f_X6_loops_p9 n_9 x1_9 x2_9 R_9 → ∀ (H : Heap) (locs : List Loc) (ls : Array Slot), va_P (dC, dI) vwCl (cMd a cI R_9) H → va_D (va_A (cMd a cI R) s.heap.size) (cMd a cI R_9) → va_S (va_A (cMd a cI R) s.heap.size) s.heap H locs → lv_has ls 3 [(0, .ref (a 0)), (1, .int x1_9), (2, .int x2_9)] → W p l e (headSpec wsX6_loops rm_X6_loops).room s m ([.ref (a 0)] : List Value).toArray below meth c H locs 0 0 (MQ below (va_Qi (fun (r : Int32) (u : SR) => (r, u) = f_X6_loops R ∧ (RA u) ∧ (RS u) ∧ (FX R u) ∧ (u 0 = R 0)) (fun u U => va_P (dC, dI) vwCl (cMd a cI u) U.heap ∧ va_D (va_A (cMd a cI R) s.heap.size) (cMd a cI u)) (va_A (cMd a cI R) s.heap.size)) ([.ref (a 0)] : List Value).toArray s 0 0 (va_A (cMd a cI R) s.heap.size)) (F0 m 9 ls []) := by
    intro n_9
    induction n_9 with
    | zero =>
      intro j_9 x1_9 x2_9 R_9 ex2_9 hj0_9 hn_9 hI_9 hs_9 hx_9 h0_9
      exact absurd hn_9 (by omega)
    | succ n_9 ih_9 =>
      intro j_9 x1_9 x2_9 R_9 ex2_9 hj0_9 hn_9 hI_9 hs_9 hx_9 h0_9 hR H locs ls hP hD hS hl
      rw [f_X6_loops_p9] at hR
      refine lv_iload_n hx hb dX6_loops_9 rfl (lv_at hl 2 rfl) ?_
      refine lv_iconst (v := 4) hx hb dX6_loops_10 (by decide) ?_
      refine lv_icmp_ge (tgt := 60) hx hb dX6_loops_11 (by decide) (fun c7 => ?_) (fun c7 => ?_)
      · rw [if_pos c7] at hR
        refine lv_iload_n hx hb dX6_loops_60 rfl (lv_at hl 1 rfl) ?_
        exact W.iret (v := x1_9) hx hb hr (fun t ht hWw => ⟨⟨x1_9, R_9, rfl, ⟨hR.symm.trans eR, hI_9, hs_9, hx_9, h0_9⟩, by rw [ht]; exact hP, hD⟩, hS.F ht⟩) hS.2.2 dX6_loops_61
      · rw [if_neg c7] at hR
        have hj_9 : j_9 < 4 := lp_ge ex2_9 (by decide +kernel) (by omega) (by omega) c7
        refine lv_iload_n hx hb dX6_loops_14 rfl (lv_at hl 1 rfl) ?_
        refine lv_aload_n hx hb dX6_loops_15 rfl (lv_at hl 0 rfl) ?_
        refine va_get (D := (dC, dI)) (ci := 6) (v := .ref (a 1)) (C := RX6) (T := TX6) (N := 15) hx hb hts hin6 hown hK hP 0 rfl rfl 1 (by decide) (hts (.fieldLink RX6 7 "FeedDeskModel" "s" "[I") (List.mem_of_getElem? (i := 2) rfl)) (fun _ h9 => h9) rfl dX6_loops_16 ?_
        refine lv_bipush (v := 84) hx hb dX6_loops_19 (by decide) ?_
        refine lv_iload_n hx hb dX6_loops_21 rfl (lv_at hl 2 rfl) ?_
        refine lv_iadd hx hb dX6_loops_22 ?_
        refine va_iald (f := R_9 0) hx hb hK hP 1 0 rfl rfl (by rw [ex2_9]; exact vp_of_B (ix_16 j_9 hj_9)) dX6_loops_23 ?_
        refine lv_iconst (v := (-1)) hx hb dX6_loops_24 (by decide) ?_
        refine lv_icmp_eq (tgt := 51) hx hb dX6_loops_25 (by decide) (fun c8 => ?_) (fun c8 => ?_)
        · rw [if_pos c8] at hR
          refine lv_iconst (v := 0) hx hb dX6_loops_51 (by decide) ?_
          refine lv_ior hx hb dX6_loops_52 ?_
          refine lv_istore_n (lv' := [(1, .int (x1_9 ||| 0)), (0, .ref (a 0)), (2, .int x2_9)]) hx hb dX6_loops_53 rfl hl (by decide) rfl (fun ls hl => ?_)
          refine lv_iinc (v := x2_9 + 1) (lv' := [(2, .int (x2_9 + 1)), (1, .int (x1_9 ||| 0)), (0, .ref (a 0))]) hx hb dX6_loops_54 hl (k := 2) rfl rfl (by decide) rfl (fun ls hl => ?_)
          refine lv_goto (tgt := 9) hx hb dX6_loops_57 (by decide) ?_
          exact ih_9 (j_9 + 1) (x1_9 ||| 0) (x2_9 + 1) R_9 (by rw [ex2_9, nI_1]) (by omega) (by omega) hI_9 hs_9 hx_9 h0_9 hR _ _ _ hP hD hS (lv_sub hl [2, 1, 0] rfl)
        · rw [if_neg c8] at hR
          refine lv_aload_n hx hb dX6_loops_28 rfl (lv_at hl 0 rfl) ?_
          refine lv_aload_n hx hb dX6_loops_29 rfl (lv_at hl 0 rfl) ?_
          refine va_get (D := (dC, dI)) (ci := 6) (v := .ref (a 1)) (C := RX6) (T := TX6) (N := 15) hx hb hts hin6 hown hK hP 0 rfl rfl 1 (by decide) (hts (.fieldLink RX6 7 "FeedDeskModel" "s" "[I") (List.mem_of_getElem? (i := 2) rfl)) (fun _ h9 => h9) rfl dX6_loops_30 ?_
          refine lv_bipush (v := 84) hx hb dX6_loops_33 (by decide) ?_
          refine lv_iload_n hx hb dX6_loops_35 rfl (lv_at hl 2 rfl) ?_
          refine lv_iadd hx hb dX6_loops_36 ?_
          refine va_iald (f := R_9 0) hx hb hK hP 1 0 rfl rfl (by rw [ex2_9]; exact vp_of_B (ix_16 j_9 hj_9)) dX6_loops_37 ?_
          refine lv_iload_n hx hb dX6_loops_38 rfl (lv_at hl 2 rfl) ?_
          have hPc : va_P (dC, dI) vwCl (cMd a cI R_9) H := hP.sub [0, 1, 2, 3, 4, 5, 6] rfl
          have hDc : va_D (va_A (cMd a cI R) s.heap.size) (cMd a cI R_9) := hD.sub [0, 1, 2, 3, 4, 5, 6] (by decide) rfl
          have hFc : ∀ q : Nat, va_A (cMd a cI R_9) H.size q → (va_A (cMd a cI R) s.heap.size) q := va_free hD hS hA [0, 1, 2, 3, 4, 5, 6] rfl
          refine va_calli (va_runV (As := [.int (R_9 0 (84 + x2_9).toNatClampNeg), .int x2_9]) (rest := [.int x1_9]) ⟨hx, hb, hml, hown, hts⟩ (c_X6_finds l dC dI cI cC cS a R_9 H.size (R_9 0 (84 + x2_9).toNatClampNeg) x2_9 (ra_get hI_9 (by rw [ex2_9]; exact vp_of_B (ix_2 j_9 hj_9)) c8) (by rw [ex2_9]; exact vp_of_B (ix_2 j_9 hj_9)) hI_9 hs_9) (cwV 2 hts gX6_loops_X6_finds rfl rfl rfl (by decide +kernel) ⟨Nat.le_of_ble_eq_true rfl, Nat.le_of_ble_eq_true rfl⟩) (pV (q0 := 0) hK hPc hDc hN rfl rfl) rfl rfl hl.1 rfl (lv_room (Nat.le_of_ble_eq_true rfl)) dX6_loops_39 ⟨Nat.le_of_ble_eq_true rfl, Nat.le_of_ble_eq_true rfl⟩) hS (fun q _ h => hFc q h) hFc (fun r_9 u_9 t_9 H10 locs ht hvm hw hB hz1 hk1 hS => ?_)
          obtain ⟨hw, hens11, hens12, hens13, hens14, hens15, hens16⟩ := hw
          obtain ⟨hP1, hD1⟩ := hB
          rw [ht] at hP1
          have hw1 : r_9 = (f_X6_finds R_9 (R_9 0 (84 + x2_9).toNatClampNeg) x2_9).1 := congrArg Prod.fst hw
          have hw2 : u_9 = (f_X6_finds R_9 (R_9 0 (84 + x2_9).toNatClampNeg) x2_9).2 := congrArg Prod.snd hw
          clear hw
          subst hw1
          subst hw2
          obtain ⟨hP, hD⟩ := va_join (wc := cMd a cI R_9) (wr := []) (w1 := cMd a cI ((f_X6_finds R_9 (R_9 0 (84 + x2_9).toNatClampNeg) x2_9).2)) hP hD [0, 1, 2, 3, 4, 5, 6] [] rfl rfl (by decide) (by decide) hk1 hFc hP1 hD1
          have hP : va_P (dC, dI) vwCl (cMd a cI ((f_X6_finds R_9 (R_9 0 (84 + x2_9).toNatClampNeg) x2_9).2)) H10 := hP.sub [0, 1, 2, 3, 4, 5, 6] rfl
          have hD : va_D (va_A (cMd a cI R) s.heap.size) (cMd a cI ((f_X6_finds R_9 (R_9 0 (84 + x2_9).toNatClampNeg) x2_9).2)) := hD.sub [0, 1, 2, 3, 4, 5, 6] (by decide) rfl
          obtain ⟨Rn17, eRn17⟩ : ∃ z : SR, z = (f_X6_finds R_9 (R_9 0 (84 + x2_9).toNatClampNeg) x2_9).2 := ⟨_, rfl⟩
          rw [sLet_eq, ← eRn17] at hR
          rw [← eRn17] at hP hD
          have hI18 : RA Rn17 := by rw [eRn17]; exact hens11
          have hs19 : RS Rn17 := by rw [eRn17]; exact hens12
          have hx20 : FX R Rn17 := (by rw [eRn17]; exact fx_tr hx_9 hens13)
          have h021 : Rn17 0 = R 0 := (by rw [eRn17, hens14]; exact h0_9)
          have hq22 : FX R_9 Rn17 := by rw [eRn17]; exact hens13
          have hq23 : BL Rn17 := by rw [eRn17]; exact hens15
          refine lv_if_eq (tgt := 51) hx hb dX6_loops_42 (by decide) (fun c24 => ?_) (fun c24 => ?_)
          · rw [if_pos c24] at hR
            refine lv_iconst (v := 0) hx hb dX6_loops_51 (by decide) ?_
            refine lv_ior hx hb dX6_loops_52 ?_
            refine lv_istore_n (lv' := [(1, .int (x1_9 ||| 0)), (0, .ref (a 0)), (2, .int x2_9)]) hx hb dX6_loops_53 rfl hl (by decide) rfl (fun ls hl => ?_)
            refine lv_iinc (v := x2_9 + 1) (lv' := [(2, .int (x2_9 + 1)), (1, .int (x1_9 ||| 0)), (0, .ref (a 0))]) hx hb dX6_loops_54 hl (k := 2) rfl rfl (by decide) rfl (fun ls hl => ?_)
            refine lv_goto (tgt := 9) hx hb dX6_loops_57 (by decide) ?_
            exact ih_9 (j_9 + 1) (x1_9 ||| 0) (x2_9 + 1) Rn17 (by rw [ex2_9, nI_1]) (by omega) (by omega) hI18 hs19 hx20 h021 hR _ _ _ hP hD hS (lv_sub hl [2, 1, 0] rfl)
          · rw [if_neg c24] at hR
            refine lv_iconst (v := 1) hx hb dX6_loops_45 (by decide) ?_
            refine lv_iload_n hx hb dX6_loops_46 rfl (lv_at hl 2 rfl) ?_
            refine lv_ishl hx hb dX6_loops_47 ?_
            refine lv_goto (tgt := 52) hx hb dX6_loops_48 (by decide) ?_
            refine lv_ior hx hb dX6_loops_52 ?_
            refine lv_istore_n (lv' := [(1, .int (x1_9 ||| (1 <<< (x2_9 &&& 31)))), (0, .ref (a 0)), (2, .int x2_9)]) hx hb dX6_loops_53 rfl hl (by decide) rfl (fun ls hl => ?_)
            refine lv_iinc (v := x2_9 + 1) (lv' := [(2, .int (x2_9 + 1)), (1, .int (x1_9 ||| (1 <<< (x2_9 &&& 31)))), (0, .ref (a 0))]) hx hb dX6_loops_54 hl (k := 2) rfl rfl (by decide) rfl (fun ls hl => ?_)
            refine lv_goto (tgt := 9) hx hb dX6_loops_57 (by decide) ?_
            exact ih_9 (j_9 + 1) (x1_9 ||| (1 <<< (x2_9 &&& 31))) (x2_9 + 1) Rn17 (by rw [ex2_9, nI_1]) (by omega) (by omega) hI18 hs19 hx20 h021 hR _ _ _ hP hD hS (lv_sub hl [2, 1, 0] rfl)
  exact hL_9 5 0 0 0 Rn2 (by decide +kernel) (by decide) (by decide) hI3 hs4 hx5 h06 hR _ _ _ hP hD hS (lv_sub hl [2, 1, 0] rfl)
abbrev rm_X6_hearersOf : Room := { frames := 7, cells := 0, slots := 0, locals := 162 }
def f_X6_hearersOf_p4 (p1 : Int32)  : Nat → Int32 → Int32 → SR → (Int32 × SR)
  | 0, _, _, R_4 => (0, R_4)
  | n_4 + 1, x2_4, x3_4, R_4 => (if 12 ≤ x3_4 then (x2_4, R_4) else (if (f_X6_has (R_4 0 (80 + p1).toNatClampNeg) x3_4) = 0 then (f_X6_hearersOf_p4 p1 n_4) (x2_4 ||| 0) (x3_4 + 1) R_4 else sLet ((f_X6_finds R_4 x3_4 p1).2) (fun Rn14 : SR => (if ((f_X6_finds R_4 x3_4 p1).1) = 0 then (f_X6_hearersOf_p4 p1 n_4) (x2_4 ||| 0) (x3_4 + 1) Rn14 else (f_X6_hearersOf_p4 p1 n_4) (x2_4 ||| (1 <<< (x3_4 &&& 31))) (x3_4 + 1) Rn14))))
def f_X6_hearersOf (R : SR) (p1 : Int32) : Int32 × SR := f_X6_hearersOf_p4 p1 13 0 0 R
set_option maxHeartbeats 4000000 in
set_option maxRecDepth 100000 in
theorem c_X6_hearersOf (l : Launch) (dC : Nat → ClassId) (dI : Nat → Nat → Nat) (cI cC cS : ClassId) (a : Nat → Nat) (R : SR) (sz : Nat) (p1 : Int32) (h1 : vp_in p1 4) (hI : RA R) (hs : RS R) : Met l yX6_hearersOf wsX6_hearersOf rm_X6_hearersOf (PcG (dC, dI) (tyL cI cC cS) (cMd a cI R) sz [.ref (a 0), .int p1]) (va_Qi (fun (r : Int32) (u : SR) => (r, u) = f_X6_hearersOf R p1 ∧ (RA u) ∧ (RS u) ∧ (FX R u) ∧ (u 0 = R 0)) (fun u U => va_P (dC, dI) vwCl (cMd a cI u) U.heap ∧ va_D (va_A (cMd a cI R) sz) (cMd a cI u)) (va_A (cMd a cI R) sz)) 0 0 (va_A (cMd a cI R) sz) := by
  refine Met.ofW (cc := cX6_hearersOf) (maxL := 4) (ret := (some .int)) (by decide) rfl ?_
  intro p e s m args below meth c s₁ B hml hv
  obtain ⟨rfl, hsz, hP, hK, hD0, hN⟩ := hv
  have hx := B.exec
  have hb := B.bytes
  have hr := B.returns
  have hts := atoms_spec (ws := wsX6_hearersOf) B.pre
  have hown : s.vm.findClass RX6 = some m.cls := findClass_of_methodNamed B.named
  have hlocks := B.notSynchronized
  subst hsz
  have hD := hD0.self (sz := s.heap.size)
  have hA : ∀ q : Nat, s.heap.size ≤ q → (va_A (cMd a cI R) s.heap.size) q := fun q h => Or.inr h
  have hS : va_S (va_A (cMd a cI R) s.heap.size) s.heap s.heap [] := va_S.rf
  have hin6 : ∀ w ∈ wsX60, w ∈ wsX6_hearersOf := fun _ h => List.mem_cons_of_mem _ (List.mem_append_right _ h)
  obtain ⟨ip1, hip1, ep1⟩ := vp_in_of h1 (by decide)
  have hx_0 : FX R R := fx_rf
  have h0_0 : R 0 = R 0 := rfl
  have hl := lv_entry [.ref (a 0), .int p1] (n := 4) (Nat.le_of_ble_eq_true rfl)
  rw [lg_entry_eq]
  generalize (lg_sl [.ref (a 0), .int p1] ++ List.replicate (4 - (lg_sl [.ref (a 0), .int p1]).length) Slot.unset).toArray = ls at hl ⊢
  have hl : lv_has ls 4 [(0, .ref (a 0)), (1, .int p1)] := hl
  obtain ⟨R0, eR⟩ : ∃ z, z = f_X6_hearersOf R p1 := ⟨_, rfl⟩
  have hR := eR
  rw [f_X6_hearersOf] at hR
  refine lv_iconst (v := 0) hx hb dX6_hearersOf_0 (by decide) ?_
  refine lv_istore_n (lv' := [(2, .int 0), (0, .ref (a 0)), (1, .int p1)]) hx hb dX6_hearersOf_1 rfl hl (by decide) rfl (fun ls hl => ?_)
  refine lv_iconst (v := 0) hx hb dX6_hearersOf_2 (by decide) ?_
  refine lv_istore_n (lv' := [(3, .int 0), (2, .int 0), (0, .ref (a 0)), (1, .int p1)]) hx hb dX6_hearersOf_3 rfl hl (by decide) rfl (fun ls hl => ?_)
  have hL_4 : ∀ n_4 : Nat, ∀ (j_4 : Nat), ∀ (x2_4 : Int32) (x3_4 : Int32) (R_4 : SR), x3_4 = nI j_4 → j_4 ≤ 12 → 12 < j_4 + n_4 → RA R_4 → RS R_4 → FX R R_4 → R_4 0 = R 0 → R0 = f_X6_hearersOf_p4 p1 n_4 x2_4 x3_4 R_4 → ∀ (H : Heap) (locs : List Loc) (ls : Array Slot), va_P (dC, dI) vwCl (cMd a cI R_4) H → va_D (va_A (cMd a cI R) s.heap.size) (cMd a cI R_4) → va_S (va_A (cMd a cI R) s.heap.size) s.heap H locs → lv_has ls 4 [(0, .ref (a 0)), (1, .int p1), (2, .int x2_4), (3, .int x3_4)] → W p l e (headSpec wsX6_hearersOf rm_X6_hearersOf).room s m ([.ref (a 0), .int p1] : List Value).toArray below meth c H locs 0 0 (MQ below (va_Qi (fun (r : Int32) (u : SR) => (r, u) = f_X6_hearersOf R p1 ∧ (RA u) ∧ (RS u) ∧ (FX R u) ∧ (u 0 = R 0)) (fun u U => va_P (dC, dI) vwCl (cMd a cI u) U.heap ∧ va_D (va_A (cMd a cI R) s.heap.size) (cMd a cI u)) (va_A (cMd a cI R) s.heap.size)) ([.ref (a 0), .int p1] : List Value).toArray s 0 0 (va_A (cMd a cI R) s.heap.size)) (F0 m 4 ls []) := by
    intro n_4
    induction n_4 with
    | zero =>
      intro j_4 x2_4 x3_4 R_4 ex3_4 hj0_4 hn_4 hI_4 hs_4 hx_4 h0_4
      exact absurd hn_4 (by omega)
    | succ n_4 ih_4 =>
      intro j_4 x2_4 x3_4 R_4 ex3_4 hj0_4 hn_4 hI_4 hs_4 hx_4 h0_4 hR H locs ls hP hD hS hl
      rw [f_X6_hearersOf_p4] at hR
      refine lv_iload_n hx hb dX6_hearersOf_4 rfl (lv_at hl 3 rfl) ?_
      refine lv_bipush (v := 12) hx hb dX6_hearersOf_5 (by decide) ?_
      refine lv_icmp_ge (tgt := 51) hx hb dX6_hearersOf_7 (by decide) (fun c1 => ?_) (fun c1 => ?_)
      · rw [if_pos c1] at hR
        refine lv_iload_n hx hb dX6_hearersOf_51 rfl (lv_at hl 2 rfl) ?_
        exact W.iret (v := x2_4) hx hb hr (fun t ht hWw => ⟨⟨x2_4, R_4, rfl, ⟨hR.symm.trans eR, hI_4, hs_4, hx_4, h0_4⟩, by rw [ht]; exact hP, hD⟩, hS.F ht⟩) hS.2.2 dX6_hearersOf_52
      · rw [if_neg c1] at hR
        have hj_4 : j_4 < 12 := lp_ge ex3_4 (by decide +kernel) (by omega) (by omega) c1
        refine lv_iload_n hx hb dX6_hearersOf_10 rfl (lv_at hl 2 rfl) ?_
        refine lv_aload_n hx hb dX6_hearersOf_11 rfl (lv_at hl 0 rfl) ?_
        refine va_get (D := (dC, dI)) (ci := 6) (v := .ref (a 1)) (C := RX6) (T := TX6) (N := 15) hx hb hts hin6 hown hK hP 0 rfl rfl 1 (by decide) (hts (.fieldLink RX6 7 "FeedDeskModel" "s" "[I") (List.mem_of_getElem? (i := 1) rfl)) (fun _ h9 => h9) rfl dX6_hearersOf_12 ?_
        refine lv_bipush (v := 80) hx hb dX6_hearersOf_15 (by decide) ?_
        refine lv_iload_n hx hb dX6_hearersOf_17 rfl (lv_at hl 1 rfl) ?_
        refine lv_iadd hx hb dX6_hearersOf_18 ?_
        refine va_iald (f := R_4 0) hx hb hK hP 1 0 rfl rfl (by rw [ep1]; exact vp_of_B (ix_15 ip1 hip1)) dX6_hearersOf_19 ?_
        refine lv_iload_n hx hb dX6_hearersOf_20 rfl (lv_at hl 3 rfl) ?_
        have hFc : ∀ q : Nat, va_A [] H.size q → (va_A (cMd a cI R) s.heap.size) q := roF hS hA
        refine va_calli (va_runS (As := [.int (R_4 0 (80 + p1).toNatClampNeg), .int x3_4]) (rest := [.int x2_4]) ⟨hx, hb, hml, hown, hts⟩ (c_X6_has l dC dI cI cC cS H.size (R_4 0 (80 + p1).toNatClampNeg) x3_4) (va_cwS 2 hts gX6_hearersOf_X6_has rfl rfl rfl (by decide +kernel) ⟨Nat.le_of_ble_eq_true rfl, Nat.le_of_ble_eq_true rfl⟩) (pS hK (va_P_nil) (va_D_nil) hN) rfl rfl hl.1 rfl (lv_room (Nat.le_of_ble_eq_true rfl)) dX6_hearersOf_21 ⟨Nat.le_of_ble_eq_true rfl, Nat.le_of_ble_eq_true rfl⟩) hS (fun q _ h => hFc q h) hFc (fun r_2 u_2 t_2 H3 locs ht hvm hw hB hz1 hk1 hS => ?_)
        obtain ⟨hw, hre4⟩ := hw
        subst hw
        have hP := ro_keep hP hk1
        refine lv_if_eq (tgt := 42) hx hb dX6_hearersOf_24 (by decide) (fun c5 => ?_) (fun c5 => ?_)
        · rw [if_pos c5] at hR
          refine lv_iconst (v := 0) hx hb dX6_hearersOf_42 (by decide) ?_
          refine lv_ior hx hb dX6_hearersOf_43 ?_
          refine lv_istore_n (lv' := [(2, .int (x2_4 ||| 0)), (0, .ref (a 0)), (1, .int p1), (3, .int x3_4)]) hx hb dX6_hearersOf_44 rfl hl (by decide) rfl (fun ls hl => ?_)
          refine lv_iinc (v := x3_4 + 1) (lv' := [(3, .int (x3_4 + 1)), (2, .int (x2_4 ||| 0)), (0, .ref (a 0)), (1, .int p1)]) hx hb dX6_hearersOf_45 hl (k := 3) rfl rfl (by decide) rfl (fun ls hl => ?_)
          refine lv_goto (tgt := 4) hx hb dX6_hearersOf_48 (by decide) ?_
          exact ih_4 (j_4 + 1) (x2_4 ||| 0) (x3_4 + 1) R_4 (by rw [ex3_4, nI_1]) (by omega) (by omega) hI_4 hs_4 hx_4 h0_4 hR _ _ _ hP hD hS (lv_sub hl [2, 3, 1, 0] rfl)
        · rw [if_neg c5] at hR
          refine lv_aload_n hx hb dX6_hearersOf_27 rfl (lv_at hl 0 rfl) ?_
          refine lv_iload_n hx hb dX6_hearersOf_28 rfl (lv_at hl 3 rfl) ?_
          refine lv_iload_n hx hb dX6_hearersOf_29 rfl (lv_at hl 1 rfl) ?_
          have hPc : va_P (dC, dI) vwCl (cMd a cI R_4) H3 := hP.sub [0, 1, 2, 3, 4, 5, 6] rfl
          have hDc : va_D (va_A (cMd a cI R) s.heap.size) (cMd a cI R_4) := hD.sub [0, 1, 2, 3, 4, 5, 6] (by decide) rfl
          have hFc : ∀ q : Nat, va_A (cMd a cI R_4) H3.size q → (va_A (cMd a cI R) s.heap.size) q := va_free hD hS hA [0, 1, 2, 3, 4, 5, 6] rfl
          refine va_calli (va_runV (As := [.int x3_4, .int p1]) (rest := [.int x2_4]) ⟨hx, hb, hml, hown, hts⟩ (c_X6_finds l dC dI cI cC cS a R_4 H3.size x3_4 p1 (by rw [ex3_4]; exact vp_of_B (ix_1 j_4 hj_4)) h1 hI_4 hs_4) (cwV 2 hts gX6_hearersOf_X6_finds rfl rfl rfl (by decide +kernel) ⟨Nat.le_of_ble_eq_true rfl, Nat.le_of_ble_eq_true rfl⟩) (pV (q0 := 0) hK hPc hDc hN rfl rfl) rfl rfl hl.1 rfl (lv_room (Nat.le_of_ble_eq_true rfl)) dX6_hearersOf_30 ⟨Nat.le_of_ble_eq_true rfl, Nat.le_of_ble_eq_true rfl⟩) hS (fun q _ h => hFc q h) hFc (fun r_6 u_6 t_6 H7 locs ht hvm hw hB hz1 hk1 hS => ?_)
          obtain ⟨hw, hens8, hens9, hens10, hens11, hens12, hens13⟩ := hw
          obtain ⟨hP1, hD1⟩ := hB
          rw [ht] at hP1
          have hw1 : r_6 = (f_X6_finds R_4 x3_4 p1).1 := congrArg Prod.fst hw
          have hw2 : u_6 = (f_X6_finds R_4 x3_4 p1).2 := congrArg Prod.snd hw
          clear hw
          subst hw1
          subst hw2
          obtain ⟨hP, hD⟩ := va_join (wc := cMd a cI R_4) (wr := []) (w1 := cMd a cI ((f_X6_finds R_4 x3_4 p1).2)) hP hD [0, 1, 2, 3, 4, 5, 6] [] rfl rfl (by decide) (by decide) hk1 hFc hP1 hD1
          have hP : va_P (dC, dI) vwCl (cMd a cI ((f_X6_finds R_4 x3_4 p1).2)) H7 := hP.sub [0, 1, 2, 3, 4, 5, 6] rfl
          have hD : va_D (va_A (cMd a cI R) s.heap.size) (cMd a cI ((f_X6_finds R_4 x3_4 p1).2)) := hD.sub [0, 1, 2, 3, 4, 5, 6] (by decide) rfl
          obtain ⟨Rn14, eRn14⟩ : ∃ z : SR, z = (f_X6_finds R_4 x3_4 p1).2 := ⟨_, rfl⟩
          rw [sLet_eq, ← eRn14] at hR
          rw [← eRn14] at hP hD
          have hI15 : RA Rn14 := by rw [eRn14]; exact hens8
          have hs16 : RS Rn14 := by rw [eRn14]; exact hens9
          have hx17 : FX R Rn14 := (by rw [eRn14]; exact fx_tr hx_4 hens10)
          have h018 : Rn14 0 = R 0 := (by rw [eRn14, hens11]; exact h0_4)
          have hq19 : FX R_4 Rn14 := by rw [eRn14]; exact hens10
          have hq20 : BL Rn14 := by rw [eRn14]; exact hens12
          refine lv_if_eq (tgt := 42) hx hb dX6_hearersOf_33 (by decide) (fun c21 => ?_) (fun c21 => ?_)
          · rw [if_pos c21] at hR
            refine lv_iconst (v := 0) hx hb dX6_hearersOf_42 (by decide) ?_
            refine lv_ior hx hb dX6_hearersOf_43 ?_
            refine lv_istore_n (lv' := [(2, .int (x2_4 ||| 0)), (0, .ref (a 0)), (1, .int p1), (3, .int x3_4)]) hx hb dX6_hearersOf_44 rfl hl (by decide) rfl (fun ls hl => ?_)
            refine lv_iinc (v := x3_4 + 1) (lv' := [(3, .int (x3_4 + 1)), (2, .int (x2_4 ||| 0)), (0, .ref (a 0)), (1, .int p1)]) hx hb dX6_hearersOf_45 hl (k := 3) rfl rfl (by decide) rfl (fun ls hl => ?_)
            refine lv_goto (tgt := 4) hx hb dX6_hearersOf_48 (by decide) ?_
            exact ih_4 (j_4 + 1) (x2_4 ||| 0) (x3_4 + 1) Rn14 (by rw [ex3_4, nI_1]) (by omega) (by omega) hI15 hs16 hx17 h018 hR _ _ _ hP hD hS (lv_sub hl [2, 3, 1, 0] rfl)
          · rw [if_neg c21] at hR
            refine lv_iconst (v := 1) hx hb dX6_hearersOf_36 (by decide) ?_
            refine lv_iload_n hx hb dX6_hearersOf_37 rfl (lv_at hl 3 rfl) ?_
            refine lv_ishl hx hb dX6_hearersOf_38 ?_
            refine lv_goto (tgt := 43) hx hb dX6_hearersOf_39 (by decide) ?_
            refine lv_ior hx hb dX6_hearersOf_43 ?_
            refine lv_istore_n (lv' := [(2, .int (x2_4 ||| (1 <<< (x3_4 &&& 31)))), (0, .ref (a 0)), (1, .int p1), (3, .int x3_4)]) hx hb dX6_hearersOf_44 rfl hl (by decide) rfl (fun ls hl => ?_)
            refine lv_iinc (v := x3_4 + 1) (lv' := [(3, .int (x3_4 + 1)), (2, .int (x2_4 ||| (1 <<< (x3_4 &&& 31)))), (0, .ref (a 0)), (1, .int p1)]) hx hb dX6_hearersOf_45 hl (k := 3) rfl rfl (by decide) rfl (fun ls hl => ?_)
            refine lv_goto (tgt := 4) hx hb dX6_hearersOf_48 (by decide) ?_
            exact ih_4 (j_4 + 1) (x2_4 ||| (1 <<< (x3_4 &&& 31))) (x3_4 + 1) Rn14 (by rw [ex3_4, nI_1]) (by omega) (by omega) hI15 hs16 hx17 h018 hR _ _ _ hP hD hS (lv_sub hl [2, 3, 1, 0] rfl)
  exact hL_4 13 0 0 0 R (by decide +kernel) (by decide) (by decide) hI hs hx_0 h0_0 hR _ _ _ hP hD hS (lv_sub hl [2, 3, 1, 0] rfl)
abbrev rm_X6_hearers : Room := { frames := 8, cells := 0, slots := 0, locals := 185 }
def f_X6_hearers (R : SR) (p1 : Int32) : Int32 × SR := sLet (sU R 6 0 0) (fun Rn2 : SR => (if (f_X6_isFour p1) = 0 then ((-1), Rn2) else sLet ((f_X6_hearersOf Rn2 p1).2) (fun Rn17 : SR => ((f_X6_hearersOf Rn2 p1).1, Rn17))))
set_option maxHeartbeats 4000000 in
set_option maxRecDepth 100000 in
theorem c_X6_hearers (l : Launch) (dC : Nat → ClassId) (dI : Nat → Nat → Nat) (cI cC cS : ClassId) (a : Nat → Nat) (R : SR) (sz : Nat) (p1 : Int32) (hI : RA R) (hs : RS R) : Met l yX6_hearers wsX6_hearers rm_X6_hearers (PcG (dC, dI) (tyL cI cC cS) (cMd a cI R) sz [.ref (a 0), .int p1]) (va_Qi (fun (r : Int32) (u : SR) => (r, u) = f_X6_hearers R p1 ∧ (RA u) ∧ (RS u) ∧ (FX R u) ∧ (u 0 = R 0)) (fun u U => va_P (dC, dI) vwCl (cMd a cI u) U.heap ∧ va_D (va_A (cMd a cI R) sz) (cMd a cI u)) (va_A (cMd a cI R) sz)) 0 0 (va_A (cMd a cI R) sz) := by
  refine Met.ofW (cc := cX6_hearers) (maxL := 2) (ret := (some .int)) (by decide) rfl ?_
  intro p e s m args below meth c s₁ B hml hv
  obtain ⟨rfl, hsz, hP, hK, hD0, hN⟩ := hv
  have hx := B.exec
  have hb := B.bytes
  have hr := B.returns
  have hts := atoms_spec (ws := wsX6_hearers) B.pre
  have hown : s.vm.findClass RX6 = some m.cls := findClass_of_methodNamed B.named
  have hlocks := B.notSynchronized
  subst hsz
  have hD := hD0.self (sz := s.heap.size)
  have hA : ∀ q : Nat, s.heap.size ≤ q → (va_A (cMd a cI R) s.heap.size) q := fun q h => Or.inr h
  have hS : va_S (va_A (cMd a cI R) s.heap.size) s.heap s.heap [] := va_S.rf
  have hin6 : ∀ w ∈ wsX60, w ∈ wsX6_hearers := fun _ h => List.mem_cons_of_mem _ (List.mem_append_right _ h)
  have hx_0 : FX R R := fx_rf
  have h0_0 : R 0 = R 0 := rfl
  have hl := lv_entry [.ref (a 0), .int p1] (n := 2) (Nat.le_of_ble_eq_true rfl)
  rw [lg_entry_eq]
  generalize (lg_sl [.ref (a 0), .int p1] ++ List.replicate (2 - (lg_sl [.ref (a 0), .int p1]).length) Slot.unset).toArray = ls at hl ⊢
  have hl : lv_has ls 2 [(0, .ref (a 0)), (1, .int p1)] := hl
  obtain ⟨R0, eR⟩ : ∃ z, z = f_X6_hearers R p1 := ⟨_, rfl⟩
  have hR := eR
  rw [f_X6_hearers] at hR
  refine lv_aload_n hx hb dX6_hearers_0 rfl (lv_at hl 0 rfl) ?_
  refine lv_iconst (v := 0) hx hb dX6_hearers_1 (by decide) ?_
  refine va_put (D := (dC, dI)) (ci := 6) (v := .int 0) (ty := .int) (C := RX6) (T := TX6) (N := 15) hx hb hts hin6 tyX6 tyX6_ok nmX6 hown hK hP hD hS 0 rfl rfl 0 (by decide) (hts (.fieldLink RX6 28 "FeedDeskModel" "thrown" "I") (List.mem_of_getElem? (i := 1) rfl)) (fun _ h9 => h9) rfl (by decide +kernel) rfl rfl (Nat.le_of_ble_eq_true rfl) dX6_hearers_2 (fun H1 locs hP hD hS => ?_)
  have hP : va_P (dC, dI) vwCl (cMd a cI (sU R 6 0 0)) H1 := hP
  have hD : va_D (va_A (cMd a cI R) s.heap.size) (cMd a cI (sU R 6 0 0)) := hD
  obtain ⟨Rn2, eRn2⟩ : ∃ z : SR, z = sU R 6 0 0 := ⟨_, rfl⟩
  rw [sLet_eq, ← eRn2] at hR
  rw [← eRn2] at hP hD
  have hI3 : RA Rn2 := (by rw [eRn2]; exact hI)
  have hs4 : RS Rn2 := (by rw [eRn2]; exact hs)
  have hx5 : FX R Rn2 := (by rw [eRn2]; exact hx_0)
  have h06 : Rn2 0 = R 0 := (by rw [eRn2]; exact h0_0)
  refine lv_iload_n hx hb dX6_hearers_5 rfl (lv_at hl 1 rfl) ?_
  have hFc : ∀ q : Nat, va_A [] H1.size q → (va_A (cMd a cI R) s.heap.size) q := roF hS hA
  refine va_calli (va_runS (As := [.int p1]) (rest := []) ⟨hx, hb, hml, hown, hts⟩ (c_X6_isFour l dC dI cI cC cS H1.size p1) (va_cwS 1 hts gX6_hearers_X6_isFour rfl rfl rfl (by decide +kernel) ⟨Nat.le_of_ble_eq_true rfl, Nat.le_of_ble_eq_true rfl⟩) (pS hK (va_P_nil) (va_D_nil) hN) rfl rfl hl.1 rfl (lv_room (Nat.le_of_ble_eq_true rfl)) dX6_hearers_6 ⟨Nat.le_of_ble_eq_true rfl, Nat.le_of_ble_eq_true rfl⟩) hS (fun q _ h => hFc q h) hFc (fun r_7 u_7 t_7 H8 locs ht hvm hw hB hz1 hk1 hS => ?_)
  obtain ⟨hw, hre9⟩ := hw
  subst hw
  have hP := ro_keep hP hk1
  refine lv_if_eq (tgt := 20) hx hb dX6_hearers_9 (by decide) (fun c10 => ?_) (fun c10 => ?_)
  · rw [if_pos c10] at hR
    refine lv_iconst (v := (-1)) hx hb dX6_hearers_20 (by decide) ?_
    exact W.iret (v := (-1)) hx hb hr (fun t ht hWw => ⟨⟨(-1), Rn2, rfl, ⟨hR.symm.trans eR, hI3, hs4, hx5, h06⟩, by rw [ht]; exact hP, hD⟩, hS.F ht⟩) hS.2.2 dX6_hearers_21
  · rw [if_neg c10] at hR
    refine lv_aload_n hx hb dX6_hearers_12 rfl (lv_at hl 0 rfl) ?_
    refine lv_iload_n hx hb dX6_hearers_13 rfl (lv_at hl 1 rfl) ?_
    have hPc : va_P (dC, dI) vwCl (cMd a cI Rn2) H8 := hP.sub [0, 1, 2, 3, 4, 5, 6] rfl
    have hDc : va_D (va_A (cMd a cI R) s.heap.size) (cMd a cI Rn2) := hD.sub [0, 1, 2, 3, 4, 5, 6] (by decide) rfl
    have hFc : ∀ q : Nat, va_A (cMd a cI Rn2) H8.size q → (va_A (cMd a cI R) s.heap.size) q := va_free hD hS hA [0, 1, 2, 3, 4, 5, 6] rfl
    refine va_calli (va_runV (As := [.int p1]) (rest := []) ⟨hx, hb, hml, hown, hts⟩ (c_X6_hearersOf l dC dI cI cC cS a Rn2 H8.size p1 (four_vp c10) hI3 hs4) (cwV 1 hts gX6_hearers_X6_hearersOf rfl rfl rfl (by decide +kernel) ⟨Nat.le_of_ble_eq_true rfl, Nat.le_of_ble_eq_true rfl⟩) (pV (q0 := 0) hK hPc hDc hN rfl rfl) rfl rfl hl.1 rfl (lv_room (Nat.le_of_ble_eq_true rfl)) dX6_hearers_14 ⟨Nat.le_of_ble_eq_true rfl, Nat.le_of_ble_eq_true rfl⟩) hS (fun q _ h => hFc q h) hFc (fun r_11 u_11 t_11 H12 locs ht hvm hw hB hz1 hk1 hS => ?_)
    obtain ⟨hw, hens13, hens14, hens15, hens16⟩ := hw
    obtain ⟨hP1, hD1⟩ := hB
    rw [ht] at hP1
    have hw1 : r_11 = (f_X6_hearersOf Rn2 p1).1 := congrArg Prod.fst hw
    have hw2 : u_11 = (f_X6_hearersOf Rn2 p1).2 := congrArg Prod.snd hw
    clear hw
    subst hw1
    subst hw2
    obtain ⟨hP, hD⟩ := va_join (wc := cMd a cI Rn2) (wr := []) (w1 := cMd a cI ((f_X6_hearersOf Rn2 p1).2)) hP hD [0, 1, 2, 3, 4, 5, 6] [] rfl rfl (by decide) (by decide) hk1 hFc hP1 hD1
    have hP : va_P (dC, dI) vwCl (cMd a cI ((f_X6_hearersOf Rn2 p1).2)) H12 := hP.sub [0, 1, 2, 3, 4, 5, 6] rfl
    have hD : va_D (va_A (cMd a cI R) s.heap.size) (cMd a cI ((f_X6_hearersOf Rn2 p1).2)) := hD.sub [0, 1, 2, 3, 4, 5, 6] (by decide) rfl
    obtain ⟨Rn17, eRn17⟩ : ∃ z : SR, z = (f_X6_hearersOf Rn2 p1).2 := ⟨_, rfl⟩
    rw [sLet_eq, ← eRn17] at hR
    rw [← eRn17] at hP hD
    have hI18 : RA Rn17 := by rw [eRn17]; exact hens13
    have hs19 : RS Rn17 := by rw [eRn17]; exact hens14
    have hx20 : FX R Rn17 := (by rw [eRn17]; exact fx_tr hx5 hens15)
    have h021 : Rn17 0 = R 0 := (by rw [eRn17, hens16]; exact h06)
    have hq22 : FX Rn2 Rn17 := by rw [eRn17]; exact hens15
    refine lv_goto (tgt := 21) hx hb dX6_hearers_17 (by decide) ?_
    exact W.iret (v := (f_X6_hearersOf Rn2 p1).1) hx hb hr (fun t ht hWw => ⟨⟨(f_X6_hearersOf Rn2 p1).1, Rn17, rfl, ⟨hR.symm.trans eR, hI18, hs19, hx20, h021⟩, by rw [ht]; exact hP, hD⟩, hS.F ht⟩) hS.2.2 dX6_hearers_21
abbrev rm_X6_cut : Room := { frames := 8, cells := 0, slots := 0, locals := 185 }
def f_X6_cut_p27 (p1 : Int32)  : Nat → Int32 → SR → (Int32 × SR)
  | 0, _, R_27 => (0, R_27)
  | n_27 + 1, x2_27, R_27 => (if 48 ≤ x2_27 then ((-99), R_27) else sLet (sU R_27 0 (88 + x2_27).toNatClampNeg 0) (fun Rn26 : SR => sLet ((f_X6_hearersOf Rn26 p1).2) (fun Rn37 : SR => (if ((f_X6_hearersOf Rn26 p1).1) = 0 then sLet (sU Rn37 0 (88 + x2_27).toNatClampNeg (R_27 0 (88 + x2_27).toNatClampNeg)) (fun Rn53 : SR => ((100 * (x2_27 / 12)) + (x2_27 - x2_27 / 12 * 12), Rn53)) else sLet (sU Rn37 0 (88 + x2_27).toNatClampNeg (R_27 0 (88 + x2_27).toNatClampNeg)) (fun Rn45 : SR => (f_X6_cut_p27 p1 n_27) (x2_27 + 1) Rn45)))))
def f_X6_cut (R : SR) (p1 : Int32) : Int32 × SR := sLet (sU R 6 0 0) (fun Rn2 : SR => (if (f_X6_isFour p1) = 0 then ((-1), Rn2) else sLet ((f_X6_hearersOf Rn2 p1).2) (fun Rn17 : SR => (if ((f_X6_hearersOf Rn2 p1).1) = 0 then ((-2), Rn17) else f_X6_cut_p27 p1 49 0 Rn17))))
theorem ix_64 : ∀ q0 : Nat, q0 < 48 → vp_okB (88 + (nI q0)) 289 = true := by decide +kernel
theorem ok_65 : ∀ q0 : Nat, q0 < 48 → okR (88 + (nI q0)).toNatClampNeg = true := by decide +kernel
theorem ok_66 : ∀ q0 : Nat, q0 < 48 → okT (88 + (nI q0)).toNatClampNeg = true := by decide +kernel
set_option maxHeartbeats 4000000 in
set_option maxRecDepth 100000 in
theorem c_X6_cut (l : Launch) (dC : Nat → ClassId) (dI : Nat → Nat → Nat) (cI cC cS : ClassId) (a : Nat → Nat) (R : SR) (sz : Nat) (p1 : Int32) (hI : RA R) (hs : RS R) : Met l yX6_cut wsX6_cut rm_X6_cut (PcG (dC, dI) (tyL cI cC cS) (cMd a cI R) sz [.ref (a 0), .int p1]) (va_Qi (fun (r : Int32) (u : SR) => (r, u) = f_X6_cut R p1 ∧ (RA u) ∧ (RS u) ∧ (FX R u) ∧ (u 0 = R 0)) (fun u U => va_P (dC, dI) vwCl (cMd a cI u) U.heap ∧ va_D (va_A (cMd a cI R) sz) (cMd a cI u)) (va_A (cMd a cI R) sz)) 0 0 (va_A (cMd a cI R) sz) := by
  refine Met.ofW (cc := cX6_cut) (maxL := 5) (ret := (some .int)) (by decide) rfl ?_
  intro p e s m args below meth c s₁ B hml hv
  obtain ⟨rfl, hsz, hP, hK, hD0, hN⟩ := hv
  have hx := B.exec
  have hb := B.bytes
  have hr := B.returns
  have hts := atoms_spec (ws := wsX6_cut) B.pre
  have hown : s.vm.findClass RX6 = some m.cls := findClass_of_methodNamed B.named
  have hlocks := B.notSynchronized
  subst hsz
  have hD := hD0.self (sz := s.heap.size)
  have hA : ∀ q : Nat, s.heap.size ≤ q → (va_A (cMd a cI R) s.heap.size) q := fun q h => Or.inr h
  have hS : va_S (va_A (cMd a cI R) s.heap.size) s.heap s.heap [] := va_S.rf
  have hin6 : ∀ w ∈ wsX60, w ∈ wsX6_cut := fun _ h => List.mem_cons_of_mem _ (List.mem_append_right _ h)
  have hx_0 : FX R R := fx_rf
  have oh00 : R 0 = R 0 := rfl
  have hl := lv_entry [.ref (a 0), .int p1] (n := 5) (Nat.le_of_ble_eq_true rfl)
  rw [lg_entry_eq]
  generalize (lg_sl [.ref (a 0), .int p1] ++ List.replicate (5 - (lg_sl [.ref (a 0), .int p1]).length) Slot.unset).toArray = ls at hl ⊢
  have hl : lv_has ls 5 [(0, .ref (a 0)), (1, .int p1)] := hl
  obtain ⟨R0, eR⟩ : ∃ z, z = f_X6_cut R p1 := ⟨_, rfl⟩
  have hR := eR
  rw [f_X6_cut] at hR
  refine lv_aload_n hx hb dX6_cut_0 rfl (lv_at hl 0 rfl) ?_
  refine lv_iconst (v := 0) hx hb dX6_cut_1 (by decide) ?_
  refine va_put (D := (dC, dI)) (ci := 6) (v := .int 0) (ty := .int) (C := RX6) (T := TX6) (N := 15) hx hb hts hin6 tyX6 tyX6_ok nmX6 hown hK hP hD hS 0 rfl rfl 0 (by decide) (hts (.fieldLink RX6 28 "FeedDeskModel" "thrown" "I") (List.mem_of_getElem? (i := 1) rfl)) (fun _ h9 => h9) rfl (by decide +kernel) rfl rfl (Nat.le_of_ble_eq_true rfl) dX6_cut_2 (fun H1 locs hP hD hS => ?_)
  have hP : va_P (dC, dI) vwCl (cMd a cI (sU R 6 0 0)) H1 := hP
  have hD : va_D (va_A (cMd a cI R) s.heap.size) (cMd a cI (sU R 6 0 0)) := hD
  obtain ⟨Rn2, eRn2⟩ : ∃ z : SR, z = sU R 6 0 0 := ⟨_, rfl⟩
  rw [sLet_eq, ← eRn2] at hR
  rw [← eRn2] at hP hD
  have hI3 : RA Rn2 := (by rw [eRn2]; exact hI)
  have hs4 : RS Rn2 := (by rw [eRn2]; exact hs)
  have hx5 : FX R Rn2 := (by rw [eRn2]; exact hx_0)
  have oh06 : Rn2 0 = R 0 := (by rw [eRn2]; exact oh00)
  refine lv_iload_n hx hb dX6_cut_5 rfl (lv_at hl 1 rfl) ?_
  have hFc : ∀ q : Nat, va_A [] H1.size q → (va_A (cMd a cI R) s.heap.size) q := roF hS hA
  refine va_calli (va_runS (As := [.int p1]) (rest := []) ⟨hx, hb, hml, hown, hts⟩ (c_X6_isFour l dC dI cI cC cS H1.size p1) (va_cwS 1 hts gX6_cut_X6_isFour rfl rfl rfl (by decide +kernel) ⟨Nat.le_of_ble_eq_true rfl, Nat.le_of_ble_eq_true rfl⟩) (pS hK (va_P_nil) (va_D_nil) hN) rfl rfl hl.1 rfl (lv_room (Nat.le_of_ble_eq_true rfl)) dX6_cut_6 ⟨Nat.le_of_ble_eq_true rfl, Nat.le_of_ble_eq_true rfl⟩) hS (fun q _ h => hFc q h) hFc (fun r_7 u_7 t_7 H8 locs ht hvm hw hB hz1 hk1 hS => ?_)
  obtain ⟨hw, hre9⟩ := hw
  subst hw
  have hP := ro_keep hP hk1
  refine lv_if_ne (tgt := 14) hx hb dX6_cut_9 (by decide) (fun c10 => ?_) (fun c10 => ?_)
  · rw [if_neg c10] at hR
    refine lv_aload_n hx hb dX6_cut_14 rfl (lv_at hl 0 rfl) ?_
    refine lv_iload_n hx hb dX6_cut_15 rfl (lv_at hl 1 rfl) ?_
    have hPc : va_P (dC, dI) vwCl (cMd a cI Rn2) H8 := hP.sub [0, 1, 2, 3, 4, 5, 6] rfl
    have hDc : va_D (va_A (cMd a cI R) s.heap.size) (cMd a cI Rn2) := hD.sub [0, 1, 2, 3, 4, 5, 6] (by decide) rfl
    have hFc : ∀ q : Nat, va_A (cMd a cI Rn2) H8.size q → (va_A (cMd a cI R) s.heap.size) q := va_free hD hS hA [0, 1, 2, 3, 4, 5, 6] rfl
    refine va_calli (va_runV (As := [.int p1]) (rest := []) ⟨hx, hb, hml, hown, hts⟩ (c_X6_hearersOf l dC dI cI cC cS a Rn2 H8.size p1 (four_vp c10) hI3 hs4) (cwV 1 hts gX6_cut_X6_hearersOf rfl rfl rfl (by decide +kernel) ⟨Nat.le_of_ble_eq_true rfl, Nat.le_of_ble_eq_true rfl⟩) (pV (q0 := 0) hK hPc hDc hN rfl rfl) rfl rfl hl.1 rfl (lv_room (Nat.le_of_ble_eq_true rfl)) dX6_cut_16 ⟨Nat.le_of_ble_eq_true rfl, Nat.le_of_ble_eq_true rfl⟩) hS (fun q _ h => hFc q h) hFc (fun r_11 u_11 t_11 H12 locs ht hvm hw hB hz1 hk1 hS => ?_)
    obtain ⟨hw, hens13, hens14, hens15, hens16⟩ := hw
    obtain ⟨hP1, hD1⟩ := hB
    rw [ht] at hP1
    have hw1 : r_11 = (f_X6_hearersOf Rn2 p1).1 := congrArg Prod.fst hw
    have hw2 : u_11 = (f_X6_hearersOf Rn2 p1).2 := congrArg Prod.snd hw
    clear hw
    subst hw1
    subst hw2
    obtain ⟨hP, hD⟩ := va_join (wc := cMd a cI Rn2) (wr := []) (w1 := cMd a cI ((f_X6_hearersOf Rn2 p1).2)) hP hD [0, 1, 2, 3, 4, 5, 6] [] rfl rfl (by decide) (by decide) hk1 hFc hP1 hD1
    have hP : va_P (dC, dI) vwCl (cMd a cI ((f_X6_hearersOf Rn2 p1).2)) H12 := hP.sub [0, 1, 2, 3, 4, 5, 6] rfl
    have hD : va_D (va_A (cMd a cI R) s.heap.size) (cMd a cI ((f_X6_hearersOf Rn2 p1).2)) := hD.sub [0, 1, 2, 3, 4, 5, 6] (by decide) rfl
    obtain ⟨Rn17, eRn17⟩ : ∃ z : SR, z = (f_X6_hearersOf Rn2 p1).2 := ⟨_, rfl⟩
    rw [sLet_eq, ← eRn17] at hR
    rw [← eRn17] at hP hD
    have hI18 : RA Rn17 := by rw [eRn17]; exact hens13
    have hs19 : RS Rn17 := by rw [eRn17]; exact hens14
    have hx20 : FX R Rn17 := (by rw [eRn17]; exact fx_tr hx5 hens15)
    have oh021 : Rn17 0 = R 0 := (by rw [eRn17, hens16]; exact oh06)
    have hq22 : FX Rn2 Rn17 := by rw [eRn17]; exact hens15
    refine lv_if_ne (tgt := 25) hx hb dX6_cut_19 (by decide) (fun c23 => ?_) (fun c23 => ?_)
    · rw [if_neg c23] at hR
      refine lv_iconst (v := 0) hx hb dX6_cut_25 (by decide) ?_
      refine lv_istore_n (lv' := [(2, .int 0), (0, .ref (a 0)), (1, .int p1)]) hx hb dX6_cut_26 rfl hl (by decide) rfl (fun ls hl => ?_)
      have hL_27 : ∀ n_27 : Nat, ∀ (j_27 : Nat), ∀ (x2_27 : Int32) (R_27 : SR), x2_27 = nI j_27 → j_27 ≤ 48 → 48 < j_27 + n_27 → RA R_27 → RS R_27 → FX R R_27 → R_27 0 = R 0 → R0 = f_X6_cut_p27 p1 n_27 x2_27 R_27 → ∀ (H : Heap) (locs : List Loc) (ls : Array Slot), va_P (dC, dI) vwCl (cMd a cI R_27) H → va_D (va_A (cMd a cI R) s.heap.size) (cMd a cI R_27) → va_S (va_A (cMd a cI R) s.heap.size) s.heap H locs → lv_has ls 5 [(0, .ref (a 0)), (1, .int p1), (2, .int x2_27)] → W p l e (headSpec wsX6_cut rm_X6_cut).room s m ([.ref (a 0), .int p1] : List Value).toArray below meth c H locs 0 0 (MQ below (va_Qi (fun (r : Int32) (u : SR) => (r, u) = f_X6_cut R p1 ∧ (RA u) ∧ (RS u) ∧ (FX R u) ∧ (u 0 = R 0)) (fun u U => va_P (dC, dI) vwCl (cMd a cI u) U.heap ∧ va_D (va_A (cMd a cI R) s.heap.size) (cMd a cI u)) (va_A (cMd a cI R) s.heap.size)) ([.ref (a 0), .int p1] : List Value).toArray s 0 0 (va_A (cMd a cI R) s.heap.size)) (F0 m 27 ls []) := by
        intro n_27
        induction n_27 with
        | zero =>
          intro j_27 x2_27 R_27 ex2_27 hj0_27 hn_27 hI_27 hs_27 hx_27 oh0_27
          exact absurd hn_27 (by omega)
        | succ n_27 ih_27 =>
          intro j_27 x2_27 R_27 ex2_27 hj0_27 hn_27 hI_27 hs_27 hx_27 oh0_27 hR H locs ls hP hD hS hl
          rw [f_X6_cut_p27] at hR
          refine lv_iload_n hx hb dX6_cut_27 rfl (lv_at hl 2 rfl) ?_
          refine lv_bipush (v := 48) hx hb dX6_cut_28 (by decide) ?_
          refine lv_icmp_ge (tgt := 102) hx hb dX6_cut_30 (by decide) (fun c24 => ?_) (fun c24 => ?_)
          · rw [if_pos c24] at hR
            refine lv_bipush (v := (-99)) hx hb dX6_cut_102 (by decide) ?_
            exact W.iret (v := (-99)) hx hb hr (fun t ht hWw => ⟨⟨(-99), R_27, rfl, ⟨hR.symm.trans eR, hI_27, hs_27, hx_27, oh0_27⟩, by rw [ht]; exact hP, hD⟩, hS.F ht⟩) hS.2.2 dX6_cut_104
          · rw [if_neg c24] at hR
            have hj_27 : j_27 < 48 := lp_ge ex2_27 (by decide +kernel) (by omega) (by omega) c24
            refine lv_aload_n hx hb dX6_cut_33 rfl (lv_at hl 0 rfl) ?_
            refine va_get (D := (dC, dI)) (ci := 6) (v := .ref (a 1)) (C := RX6) (T := TX6) (N := 15) hx hb hts hin6 hown hK hP 0 rfl rfl 1 (by decide) (hts (.fieldLink RX6 7 "FeedDeskModel" "s" "[I") (List.mem_of_getElem? (i := 2) rfl)) (fun _ h9 => h9) rfl dX6_cut_34 ?_
            refine lv_bipush (v := 88) hx hb dX6_cut_37 (by decide) ?_
            refine lv_iload_n hx hb dX6_cut_39 rfl (lv_at hl 2 rfl) ?_
            refine lv_iadd hx hb dX6_cut_40 ?_
            refine va_iald (f := R_27 0) hx hb hK hP 1 0 rfl rfl (by rw [ex2_27]; exact vp_of_B (ix_64 j_27 hj_27)) dX6_cut_41 ?_
            refine lv_istore_n (lv' := [(3, .int (R_27 0 (88 + x2_27).toNatClampNeg)), (0, .ref (a 0)), (1, .int p1), (2, .int x2_27)]) hx hb dX6_cut_42 rfl hl (by decide) rfl (fun ls hl => ?_)
            refine lv_aload_n hx hb dX6_cut_43 rfl (lv_at hl 1 rfl) ?_
            refine va_get (D := (dC, dI)) (ci := 6) (v := .ref (a 1)) (C := RX6) (T := TX6) (N := 15) hx hb hts hin6 hown hK hP 0 rfl rfl 1 (by decide) (hts (.fieldLink RX6 7 "FeedDeskModel" "s" "[I") (List.mem_of_getElem? (i := 2) rfl)) (fun _ h9 => h9) rfl dX6_cut_44 ?_
            refine lv_bipush (v := 88) hx hb dX6_cut_47 (by decide) ?_
            refine lv_iload_n hx hb dX6_cut_49 rfl (lv_at hl 3 rfl) ?_
            refine lv_iadd hx hb dX6_cut_50 ?_
            refine lv_iconst (v := 0) hx hb dX6_cut_51 (by decide) ?_
            refine va_iast (f := R_27 0) hx hb hK hP hD hS 1 0 rfl rfl (by rw [ex2_27]; exact vp_of_B (ix_64 j_27 hj_27)) dX6_cut_52 (fun H25 locs hP hD hS => ?_)
            have hP : va_P (dC, dI) vwCl (cMd a cI (sU R_27 0 (88 + x2_27).toNatClampNeg 0)) H25 := hP
            have hD : va_D (va_A (cMd a cI R) s.heap.size) (cMd a cI (sU R_27 0 (88 + x2_27).toNatClampNeg 0)) := hD
            obtain ⟨Rn26, eRn26⟩ : ∃ z : SR, z = sU R_27 0 (88 + x2_27).toNatClampNeg 0 := ⟨_, rfl⟩
            rw [sLet_eq, ← eRn26] at hR
            rw [← eRn26] at hP hD
            have hI27 : RA Rn26 := (by rw [eRn26]; exact ra_s hI_27 (by rw [ex2_27]; exact ok_65 j_27 hj_27))
            have hs28 : RS Rn26 := (by rw [eRn26]; exact rs_s hs_27 (by rw [ex2_27]; exact ok_66 j_27 hj_27))
            have hx29 : FX R Rn26 := (by rw [eRn26]; exact hx_27)
            refine lv_aload_n hx hb dX6_cut_53 rfl (lv_at hl 1 rfl) ?_
            refine lv_iload_n hx hb dX6_cut_54 rfl (lv_at hl 2 rfl) ?_
            have hPc : va_P (dC, dI) vwCl (cMd a cI Rn26) H25 := hP.sub [0, 1, 2, 3, 4, 5, 6] rfl
            have hDc : va_D (va_A (cMd a cI R) s.heap.size) (cMd a cI Rn26) := hD.sub [0, 1, 2, 3, 4, 5, 6] (by decide) rfl
            have hFc : ∀ q : Nat, va_A (cMd a cI Rn26) H25.size q → (va_A (cMd a cI R) s.heap.size) q := va_free hD hS hA [0, 1, 2, 3, 4, 5, 6] rfl
            refine va_calli (va_runV (As := [.int p1]) (rest := []) ⟨hx, hb, hml, hown, hts⟩ (c_X6_hearersOf l dC dI cI cC cS a Rn26 H25.size p1 (four_vp c10) hI27 hs28) (cwV 1 hts gX6_cut_X6_hearersOf rfl rfl rfl (by decide +kernel) ⟨Nat.le_of_ble_eq_true rfl, Nat.le_of_ble_eq_true rfl⟩) (pV (q0 := 0) hK hPc hDc hN rfl rfl) rfl rfl hl.1 rfl (lv_room (Nat.le_of_ble_eq_true rfl)) dX6_cut_55 ⟨Nat.le_of_ble_eq_true rfl, Nat.le_of_ble_eq_true rfl⟩) hS (fun q _ h => hFc q h) hFc (fun r_31 u_31 t_31 H32 locs ht hvm hw hB hz1 hk1 hS => ?_)
            obtain ⟨hw, hens33, hens34, hens35, hens36⟩ := hw
            obtain ⟨hP1, hD1⟩ := hB
            rw [ht] at hP1
            have hw1 : r_31 = (f_X6_hearersOf Rn26 p1).1 := congrArg Prod.fst hw
            have hw2 : u_31 = (f_X6_hearersOf Rn26 p1).2 := congrArg Prod.snd hw
            clear hw
            subst hw1
            subst hw2
            obtain ⟨hP, hD⟩ := va_join (wc := cMd a cI Rn26) (wr := []) (w1 := cMd a cI ((f_X6_hearersOf Rn26 p1).2)) hP hD [0, 1, 2, 3, 4, 5, 6] [] rfl rfl (by decide) (by decide) hk1 hFc hP1 hD1
            have hP : va_P (dC, dI) vwCl (cMd a cI ((f_X6_hearersOf Rn26 p1).2)) H32 := hP.sub [0, 1, 2, 3, 4, 5, 6] rfl
            have hD : va_D (va_A (cMd a cI R) s.heap.size) (cMd a cI ((f_X6_hearersOf Rn26 p1).2)) := hD.sub [0, 1, 2, 3, 4, 5, 6] (by decide) rfl
            obtain ⟨Rn37, eRn37⟩ : ∃ z : SR, z = (f_X6_hearersOf Rn26 p1).2 := ⟨_, rfl⟩
            rw [sLet_eq, ← eRn37] at hR
            rw [← eRn37] at hP hD
            have hI38 : RA Rn37 := by rw [eRn37]; exact hens33
            have hs39 : RS Rn37 := by rw [eRn37]; exact hens34
            have hx40 : FX R Rn37 := (by rw [eRn37]; exact fx_tr hx29 hens35)
            have hq42 : FX Rn26 Rn37 := by rw [eRn37]; exact hens35
            refine lv_if_ne (tgt := 65) hx hb dX6_cut_58 (by decide) (fun c43 => ?_) (fun c43 => ?_)
            · rw [if_neg c43] at hR
              refine lv_iconst (v := 0) hx hb dX6_cut_65 (by decide) ?_
              refine lv_istore (lv' := [(4, .int 0), (3, .int (R_27 0 (88 + x2_27).toNatClampNeg)), (0, .ref (a 0)), (1, .int p1), (2, .int x2_27)]) hx hb dX6_cut_66 hl (by decide) rfl (fun ls hl => ?_)
              refine lv_aload_n hx hb dX6_cut_68 rfl (lv_at hl 2 rfl) ?_
              refine va_get (D := (dC, dI)) (ci := 6) (v := .ref (a 1)) (C := RX6) (T := TX6) (N := 15) hx hb hts hin6 hown hK hP 0 rfl rfl 1 (by decide) (hts (.fieldLink RX6 7 "FeedDeskModel" "s" "[I") (List.mem_of_getElem? (i := 2) rfl)) (fun _ h9 => h9) rfl dX6_cut_69 ?_
              refine lv_bipush (v := 88) hx hb dX6_cut_72 (by decide) ?_
              refine lv_iload_n hx hb dX6_cut_74 rfl (lv_at hl 4 rfl) ?_
              refine lv_iadd hx hb dX6_cut_75 ?_
              refine lv_iload_n hx hb dX6_cut_76 rfl (lv_at hl 1 rfl) ?_
              refine va_iast (f := Rn37 0) hx hb hK hP hD hS 1 0 rfl rfl (by rw [ex2_27]; exact vp_of_B (ix_64 j_27 hj_27)) dX6_cut_77 (fun H44 locs hP hD hS => ?_)
              have hP : va_P (dC, dI) vwCl (cMd a cI (sU Rn37 0 (88 + x2_27).toNatClampNeg (R_27 0 (88 + x2_27).toNatClampNeg))) H44 := hP
              have hD : va_D (va_A (cMd a cI R) s.heap.size) (cMd a cI (sU Rn37 0 (88 + x2_27).toNatClampNeg (R_27 0 (88 + x2_27).toNatClampNeg))) := hD
              obtain ⟨Rn45, eRn45⟩ : ∃ z : SR, z = sU Rn37 0 (88 + x2_27).toNatClampNeg (R_27 0 (88 + x2_27).toNatClampNeg) := ⟨_, rfl⟩
              rw [sLet_eq, ← eRn45] at hR
              rw [← eRn45] at hP hD
              have hI46 : RA Rn45 := (by rw [eRn45]; exact ra_s hI38 (by rw [ex2_27]; exact ok_65 j_27 hj_27))
              have hs47 : RS Rn45 := (by rw [eRn45]; exact rs_s hs39 (by rw [ex2_27]; exact ok_66 j_27 hj_27))
              have hx48 : FX R Rn45 := (by rw [eRn45]; exact hx40)
              have oh50 : Rn45 0 = R 0 := (cut_back eRn26 (by rw [eRn37]; exact hens36) eRn45).trans oh0_27
              refine lv_iload hx hb dX6_cut_78 (lv_at hl 0 rfl) ?_
              refine lv_if_eq (tgt := 96) hx hb dX6_cut_80 (by decide) (fun c51 => ?_) (fun c51 => ?_)
              · refine lv_iinc (v := x2_27 + 1) (lv' := [(2, .int (x2_27 + 1)), (4, .int 0), (3, .int (R_27 0 (88 + x2_27).toNatClampNeg)), (0, .ref (a 0)), (1, .int p1)]) hx hb dX6_cut_96 hl (k := 4) rfl rfl (by decide) rfl (fun ls hl => ?_)
                refine lv_goto (tgt := 27) hx hb dX6_cut_99 (by decide) ?_
                exact ih_27 (j_27 + 1) (x2_27 + 1) Rn45 (by rw [ex2_27, nI_1]) (by omega) (by omega) hI46 hs47 hx48 oh50 hR _ _ _ hP hD hS (lv_sub hl [3, 4, 0] rfl)
              · exact absurd c51 (by decide)
            · rw [if_pos c43] at hR
              refine lv_iconst (v := 1) hx hb dX6_cut_61 (by decide) ?_
              refine lv_goto (tgt := 66) hx hb dX6_cut_62 (by decide) ?_
              refine lv_istore (lv' := [(4, .int 1), (3, .int (R_27 0 (88 + x2_27).toNatClampNeg)), (0, .ref (a 0)), (1, .int p1), (2, .int x2_27)]) hx hb dX6_cut_66 hl (by decide) rfl (fun ls hl => ?_)
              refine lv_aload_n hx hb dX6_cut_68 rfl (lv_at hl 2 rfl) ?_
              refine va_get (D := (dC, dI)) (ci := 6) (v := .ref (a 1)) (C := RX6) (T := TX6) (N := 15) hx hb hts hin6 hown hK hP 0 rfl rfl 1 (by decide) (hts (.fieldLink RX6 7 "FeedDeskModel" "s" "[I") (List.mem_of_getElem? (i := 2) rfl)) (fun _ h9 => h9) rfl dX6_cut_69 ?_
              refine lv_bipush (v := 88) hx hb dX6_cut_72 (by decide) ?_
              refine lv_iload_n hx hb dX6_cut_74 rfl (lv_at hl 4 rfl) ?_
              refine lv_iadd hx hb dX6_cut_75 ?_
              refine lv_iload_n hx hb dX6_cut_76 rfl (lv_at hl 1 rfl) ?_
              refine va_iast (f := Rn37 0) hx hb hK hP hD hS 1 0 rfl rfl (by rw [ex2_27]; exact vp_of_B (ix_64 j_27 hj_27)) dX6_cut_77 (fun H52 locs hP hD hS => ?_)
              have hP : va_P (dC, dI) vwCl (cMd a cI (sU Rn37 0 (88 + x2_27).toNatClampNeg (R_27 0 (88 + x2_27).toNatClampNeg))) H52 := hP
              have hD : va_D (va_A (cMd a cI R) s.heap.size) (cMd a cI (sU Rn37 0 (88 + x2_27).toNatClampNeg (R_27 0 (88 + x2_27).toNatClampNeg))) := hD
              obtain ⟨Rn53, eRn53⟩ : ∃ z : SR, z = sU Rn37 0 (88 + x2_27).toNatClampNeg (R_27 0 (88 + x2_27).toNatClampNeg) := ⟨_, rfl⟩
              rw [sLet_eq, ← eRn53] at hR
              rw [← eRn53] at hP hD
              have hI54 : RA Rn53 := (by rw [eRn53]; exact ra_s hI38 (by rw [ex2_27]; exact ok_65 j_27 hj_27))
              have hs55 : RS Rn53 := (by rw [eRn53]; exact rs_s hs39 (by rw [ex2_27]; exact ok_66 j_27 hj_27))
              have hx56 : FX R Rn53 := (by rw [eRn53]; exact hx40)
              have oh58 : Rn53 0 = R 0 := (cut_back eRn26 (by rw [eRn37]; exact hens36) eRn53).trans oh0_27
              refine lv_iload hx hb dX6_cut_78 (lv_at hl 0 rfl) ?_
              refine lv_if_eq (tgt := 96) hx hb dX6_cut_80 (by decide) (fun c59 => ?_) (fun c59 => ?_)
              · exact absurd c59 (by decide)
              · refine lv_bipush (v := 100) hx hb dX6_cut_83 (by decide) ?_
                refine lv_iload_n hx hb dX6_cut_85 rfl (lv_at hl 4 rfl) ?_
                refine lv_bipush (v := 12) hx hb dX6_cut_86 (by decide) ?_
                refine lv_idiv hx hb dX6_cut_88 (by decide) ?_
                refine lv_imul hx hb dX6_cut_89 ?_
                refine lv_iload_n hx hb dX6_cut_90 rfl (lv_at hl 4 rfl) ?_
                refine lv_bipush (v := 12) hx hb dX6_cut_91 (by decide) ?_
                refine lv_irem hx hb dX6_cut_93 (by decide) ?_
                refine lv_iadd hx hb dX6_cut_94 ?_
                exact W.iret (v := (100 * (x2_27 / 12)) + (x2_27 - x2_27 / 12 * 12)) hx hb hr (fun t ht hWw => ⟨⟨(100 * (x2_27 / 12)) + (x2_27 - x2_27 / 12 * 12), Rn53, rfl, ⟨hR.symm.trans eR, hI54, hs55, hx56, oh58⟩, by rw [ht]; exact hP, hD⟩, hS.F ht⟩) hS.2.2 dX6_cut_95
      exact hL_27 49 0 0 Rn17 (by decide +kernel) (by decide) (by decide) hI18 hs19 hx20 oh021 hR _ _ _ hP hD hS (lv_sub hl [1, 2, 0] rfl)
    · rw [if_pos c23] at hR
      refine lv_bipush (v := (-2)) hx hb dX6_cut_22 (by decide) ?_
      exact W.iret (v := (-2)) hx hb hr (fun t ht hWw => ⟨⟨(-2), Rn17, rfl, ⟨hR.symm.trans eR, hI18, hs19, hx20, oh021⟩, by rw [ht]; exact hP, hD⟩, hS.F ht⟩) hS.2.2 dX6_cut_24
  · rw [if_pos c10] at hR
    refine lv_iconst (v := (-1)) hx hb dX6_cut_12 (by decide) ?_
    exact W.iret (v := (-1)) hx hb hr (fun t ht hWw => ⟨⟨(-1), Rn2, rfl, ⟨hR.symm.trans eR, hI3, hs4, hx5, oh06⟩, by rw [ht]; exact hP, hD⟩, hS.F ht⟩) hS.2.2 dX6_cut_13
