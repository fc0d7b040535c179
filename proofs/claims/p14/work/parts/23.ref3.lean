abbrev rm_X6_act : Room := { frames := 0, cells := 0, slots := 0, locals := 0 }
def f_X6_act_p51   : Nat → Int32 → SR → SR
  | 0, _, R_51 => R_51
  | n_51 + 1, x1_51, R_51 => (if 289 ≤ x1_51 then sLet (sU R_51 6 1 ((R_51 6 1) + 1)) (fun Rn3 : SR => Rn3) else sLet (sU R_51 2 ((289 * (R_51 6 1)) + x1_51).toNatClampNeg (R_51 0 x1_51.toNatClampNeg)) (fun Rn11 : SR => (f_X6_act_p51 n_51) (x1_51 + 1) Rn11))
def f_X6_act_p49     (R_49 : SR) : SR := f_X6_act_p51 290 0 R_49
def f_X6_act_p10   : Nat → Int32 → SR → SR
  | 0, _, R_10 => R_10
  | n_10 + 1, x1_10, R_10 => (if 1156 ≤ x1_10 then sLet (sU R_10 6 1 ((R_10 6 1) - 1)) (fun Rn21 : SR => f_X6_act_p49 Rn21) else sLet (sU R_10 2 x1_10.toNatClampNeg (R_10 2 (x1_10 + 289).toNatClampNeg)) (fun Rn30 : SR => (f_X6_act_p10 n_10) (x1_10 + 1) Rn30))
def f_X6_act (R : SR)  : SR := (if (R 6 1) = 5 then f_X6_act_p10 1157 0 R else f_X6_act_p49 R)
theorem ix_35 : ∀ q0 : Nat, q0 < 289 → vp_okB ((nI q0)) 289 = true := by decide +kernel
theorem ix_36 : ∀ q0 : Nat, q0 < 1156 → vp_okB ((nI q0) + 289) 1445 = true := by decide +kernel
theorem ix_37 : ∀ q0 : Nat, q0 < 1156 → vp_okB ((nI q0)) 1445 = true := by decide +kernel
set_option maxHeartbeats 4000000 in
set_option maxRecDepth 100000 in
theorem c_X6_act (l : Launch) (dC : Nat → ClassId) (dI : Nat → Nat → Nat) (cI cC cS : ClassId) (a : Nat → Nat) (R : SR) (sz : Nat)  (hv : vp_in (R 6 1) 6) : Met l yX6_act wsX6_act rm_X6_act (PcG (dC, dI) (tyL cI cC cS) (cMd a cI R) sz [.ref (a 0)]) (va_Qv (fun (u : SR) => u = f_X6_act R ∧ (u 0 = R 0) ∧ (u 1 = R 1) ∧ (u 3 = R 3) ∧ (u 6 2 = R 6 2)) (fun u U => va_P (dC, dI) vwCl (cMd a cI u) U.heap ∧ va_D (va_A (cMd a cI R) sz) (cMd a cI u)) (va_A (cMd a cI R) sz)) 0 0 (va_A (cMd a cI R) sz) := by
  refine Met.ofW (cc := cX6_act) (maxL := 2) (ret := none) (by decide) rfl ?_
  intro p e s m args below meth c s₁ B hml hv
  obtain ⟨rfl, hsz, hP, hK, hD0, hN⟩ := hv
  have hx := B.exec
  have hb := B.bytes
  have hr := B.returns
  have hts := atoms_spec (ws := wsX6_act) B.pre
  have hown : s.vm.findClass RX6 = some m.cls := findClass_of_methodNamed B.named
  have hlocks := B.notSynchronized
  subst hsz
  have hD := hD0.self (sz := s.heap.size)
  have hA : ∀ q : Nat, s.heap.size ≤ q → (va_A (cMd a cI R) s.heap.size) q := fun q h => Or.inr h
  have hS : va_S (va_A (cMd a cI R) s.heap.size) s.heap s.heap [] := va_S.rf
  have hin6 : ∀ w ∈ wsX60, w ∈ wsX6_act := fun _ h => List.mem_cons_of_mem _ (List.mem_append_right _ h)
  have h0_0 : R 0 = R 0 := rfl
  have h1r_0 : R 1 = R 1 := rfl
  have h3r_0 : R 3 = R 3 := rfl
  have hl2_0 : R 6 2 = R 6 2 := rfl
  have hl := lv_entry [.ref (a 0)] (n := 2) (Nat.le_of_ble_eq_true rfl)
  rw [lg_entry_eq]
  generalize (lg_sl [.ref (a 0)] ++ List.replicate (2 - (lg_sl [.ref (a 0)]).length) Slot.unset).toArray = ls at hl ⊢
  have hl : lv_has ls 2 [(0, .ref (a 0))] := hl
  obtain ⟨R0, eR⟩ : ∃ z, z = f_X6_act R := ⟨_, rfl⟩
  have hR := eR
  rw [f_X6_act] at hR
  refine lv_aload_n hx hb dX6_act_0 rfl (lv_at hl 0 rfl) ?_
  refine va_get (D := (dC, dI)) (ci := 6) (v := .int (R 6 1)) (C := RX6) (T := TX6) (N := 15) hx hb hts hin6 hown hK hP 0 rfl rfl 4 (by decide) (hts (.fieldLink RX6 32 "FeedDeskModel" "savedMany" "I") (List.mem_of_getElem? (i := 1) rfl)) (fun _ h9 => h9) rfl dX6_act_1 ?_
  refine lv_iconst (v := 5) hx hb dX6_act_4 (by decide) ?_
  have hJ_49 : ∀   (R_49 : SR), vp_in (R_49 6 1) 5 → R_49 0 = R 0 → R_49 1 = R 1 → R_49 3 = R 3 → R_49 6 2 = R 6 2 → R0 = f_X6_act_p49 R_49 → ∀ (H : Heap) (locs : List Loc) (ls : Array Slot), va_P (dC, dI) vwCl (cMd a cI R_49) H → va_D (va_A (cMd a cI R) s.heap.size) (cMd a cI R_49) → va_S (va_A (cMd a cI R) s.heap.size) s.heap H locs → lv_has ls 2 [(0, .ref (a 0))] → W p l e (headSpec wsX6_act rm_X6_act).room s m ([.ref (a 0)] : List Value).toArray below meth c H locs 0 0 (MQ below (va_Qv (fun (u : SR) => u = f_X6_act R ∧ (u 0 = R 0) ∧ (u 1 = R 1) ∧ (u 3 = R 3) ∧ (u 6 2 = R 6 2)) (fun u U => va_P (dC, dI) vwCl (cMd a cI u) U.heap ∧ va_D (va_A (cMd a cI R) s.heap.size) (cMd a cI u)) (va_A (cMd a cI R) s.heap.size)) ([.ref (a 0)] : List Value).toArray s 0 0 (va_A (cMd a cI R) s.heap.size)) (F0 m 49 ls []) := by
    intro R_49 ov_49 h0_49 h1r_49 h3r_49 hl2_49 hR H locs ls hP hD hS hl
    rw [f_X6_act_p49] at hR
    refine lv_iconst (v := 0) hx hb dX6_act_49 (by decide) ?_
    refine lv_istore_n (lv' := [(1, .int 0), (0, .ref (a 0))]) hx hb dX6_act_50 rfl hl (by decide) rfl (fun ls hl => ?_)
    have hL_51 : ∀ n_51 : Nat, ∀ (j_51 : Nat), ∀ (x1_51 : Int32) (R_51 : SR), x1_51 = nI j_51 → j_51 ≤ 289 → 289 < j_51 + n_51 → vp_in (R_51 6 1) 5 → R_51 0 = R 0 → R_51 1 = R 1 → R_51 3 = R 3 → R_51 6 2 = R 6 2 → R0 = f_X6_act_p51 n_51 x1_51 R_51 → ∀ (H : Heap) (locs : List Loc) (ls : Array Slot), va_P (dC, dI) vwCl (cMd a cI R_51) H → va_D (va_A (cMd a cI R) s.heap.size) (cMd a cI R_51) → va_S (va_A (cMd a cI R) s.heap.size) s.heap H locs → lv_has ls 2 [(0, .ref (a 0)), (1, .int x1_51)] → W p l e (headSpec wsX6_act rm_X6_act).room s m ([.ref (a 0)] : List Value).toArray below meth c H locs 0 0 (MQ below (va_Qv (fun (u : SR) => u = f_X6_act R ∧ (u 0 = R 0) ∧ (u 1 = R 1) ∧ (u 3 = R 3) ∧ (u 6 2 = R 6 2)) (fun u U => va_P (dC, dI) vwCl (cMd a cI u) U.heap ∧ va_D (va_A (cMd a cI R) s.heap.size) (cMd a cI u)) (va_A (cMd a cI R) s.heap.size)) ([.ref (a 0)] : List Value).toArray s 0 0 (va_A (cMd a cI R) s.heap.size)) (F0 m 51 ls []) := by
      intro n_51
      induction n_51 with
      | zero =>
        intro j_51 x1_51 R_51 ex1_51 hj0_51 hn_51 ov_51 h0_51 h1r_51 h3r_51 hl2_51
        exact absurd hn_51 (by omega)
      | succ n_51 ih_51 =>
        intro j_51 x1_51 R_51 ex1_51 hj0_51 hn_51 ov_51 h0_51 h1r_51 h3r_51 hl2_51 hR H locs ls hP hD hS hl
        rw [f_X6_act_p51] at hR
        refine lv_iload_n hx hb dX6_act_51 rfl (lv_at hl 1 rfl) ?_
        refine lv_sipush (v := 289) hx hb dX6_act_52 (by decide) ?_
        refine lv_icmp_ge (tgt := 85) hx hb dX6_act_55 (by decide) (fun c1 => ?_) (fun c1 => ?_)
        · rw [if_pos c1] at hR
          refine lv_aload_n hx hb dX6_act_85 rfl (lv_at hl 0 rfl) ?_
          refine lv_dup hx hb dX6_act_86 rfl ?_
          refine va_get (D := (dC, dI)) (ci := 6) (v := .int (R_51 6 1)) (C := RX6) (T := TX6) (N := 15) hx hb hts hin6 hown hK hP 0 rfl rfl 4 (by decide) (hts (.fieldLink RX6 32 "FeedDeskModel" "savedMany" "I") (List.mem_of_getElem? (i := 1) rfl)) (fun _ h9 => h9) rfl dX6_act_87 ?_
          refine lv_iconst (v := 1) hx hb dX6_act_90 (by decide) ?_
          refine lv_iadd hx hb dX6_act_91 ?_
          refine va_put (D := (dC, dI)) (ci := 6) (v := .int ((R_51 6 1) + 1)) (ty := .int) (C := RX6) (T := TX6) (N := 15) hx hb hts hin6 tyX6 tyX6_ok nmX6 hown hK hP hD hS 0 rfl rfl 4 (by decide) (hts (.fieldLink RX6 32 "FeedDeskModel" "savedMany" "I") (List.mem_of_getElem? (i := 1) rfl)) (fun _ h9 => h9) rfl (by decide +kernel) rfl rfl (Nat.le_of_ble_eq_true rfl) dX6_act_92 (fun H2 locs hP hD hS => ?_)
          have hP : va_P (dC, dI) vwCl (cMd a cI (sU R_51 6 1 ((R_51 6 1) + 1))) H2 := hP
          have hD : va_D (va_A (cMd a cI R) s.heap.size) (cMd a cI (sU R_51 6 1 ((R_51 6 1) + 1))) := hD
          obtain ⟨Rn3, eRn3⟩ : ∃ z : SR, z = sU R_51 6 1 ((R_51 6 1) + 1) := ⟨_, rfl⟩
          rw [sLet_eq, ← eRn3] at hR
          rw [← eRn3] at hP hD
          have h06 : Rn3 0 = R 0 := (by rw [eRn3]; exact h0_51)
          have h1r7 : Rn3 1 = R 1 := (by rw [eRn3]; exact h1r_51)
          have h3r8 : Rn3 3 = R 3 := (by rw [eRn3]; exact h3r_51)
          have hl29 : Rn3 6 2 = R 6 2 := (by rw [eRn3]; exact hl2_51)
          exact W.vret hx hb hr (fun t ht hWw => ⟨⟨Rn3, rfl, ⟨hR.symm.trans eR, h06, h1r7, h3r8, hl29⟩, by rw [ht]; exact hP, hD⟩, hS.F ht⟩) hS.2.2 dX6_act_95
        · rw [if_neg c1] at hR
          have hj_51 : j_51 < 289 := lp_ge ex1_51 (by decide +kernel) (by omega) (by omega) c1
          refine lv_aload_n hx hb dX6_act_58 rfl (lv_at hl 0 rfl) ?_
          refine va_get (D := (dC, dI)) (ci := 6) (v := .ref (a 3)) (C := RX6) (T := TX6) (N := 15) hx hb hts hin6 hown hK hP 0 rfl rfl 3 (by decide) (hts (.fieldLink RX6 16 "FeedDeskModel" "saved" "[I") (List.mem_of_getElem? (i := 2) rfl)) (fun _ h9 => h9) rfl dX6_act_59 ?_
          refine lv_sipush (v := 289) hx hb dX6_act_62 (by decide) ?_
          refine lv_aload_n hx hb dX6_act_65 rfl (lv_at hl 0 rfl) ?_
          refine va_get (D := (dC, dI)) (ci := 6) (v := .int (R_51 6 1)) (C := RX6) (T := TX6) (N := 15) hx hb hts hin6 hown hK hP 0 rfl rfl 4 (by decide) (hts (.fieldLink RX6 32 "FeedDeskModel" "savedMany" "I") (List.mem_of_getElem? (i := 1) rfl)) (fun _ h9 => h9) rfl dX6_act_66 ?_
          refine lv_imul hx hb dX6_act_69 ?_
          refine lv_iload_n hx hb dX6_act_70 rfl (lv_at hl 1 rfl) ?_
          refine lv_iadd hx hb dX6_act_71 ?_
          refine lv_aload_n hx hb dX6_act_72 rfl (lv_at hl 0 rfl) ?_
          refine va_get (D := (dC, dI)) (ci := 6) (v := .ref (a 1)) (C := RX6) (T := TX6) (N := 15) hx hb hts hin6 hown hK hP 0 rfl rfl 1 (by decide) (hts (.fieldLink RX6 7 "FeedDeskModel" "s" "[I") (List.mem_of_getElem? (i := 3) rfl)) (fun _ h9 => h9) rfl dX6_act_73 ?_
          refine lv_iload_n hx hb dX6_act_76 rfl (lv_at hl 1 rfl) ?_
          refine va_iald (f := R_51 0) hx hb hK hP 1 0 rfl rfl (by rw [ex1_51]; exact vp_of_B (ix_35 j_51 hj_51)) dX6_act_77 ?_
          refine va_iast (f := R_51 2) hx hb hK hP hD hS 3 0 rfl rfl (sv_in ov_51 ex1_51 hj_51) dX6_act_78 (fun H10 locs hP hD hS => ?_)
          have hP : va_P (dC, dI) vwCl (cMd a cI (sU R_51 2 ((289 * (R_51 6 1)) + x1_51).toNatClampNeg (R_51 0 x1_51.toNatClampNeg))) H10 := hP
          have hD : va_D (va_A (cMd a cI R) s.heap.size) (cMd a cI (sU R_51 2 ((289 * (R_51 6 1)) + x1_51).toNatClampNeg (R_51 0 x1_51.toNatClampNeg))) := hD
          obtain ⟨Rn11, eRn11⟩ : ∃ z : SR, z = sU R_51 2 ((289 * (R_51 6 1)) + x1_51).toNatClampNeg (R_51 0 x1_51.toNatClampNeg) := ⟨_, rfl⟩
          rw [sLet_eq, ← eRn11] at hR
          rw [← eRn11] at hP hD
          have ov13 : vp_in (Rn11 6 1) 5 := (by rw [eRn11]; exact ov_51)
          have h014 : Rn11 0 = R 0 := (by rw [eRn11]; exact h0_51)
          have h1r15 : Rn11 1 = R 1 := (by rw [eRn11]; exact h1r_51)
          have h3r16 : Rn11 3 = R 3 := (by rw [eRn11]; exact h3r_51)
          have hl217 : Rn11 6 2 = R 6 2 := (by rw [eRn11]; exact hl2_51)
          refine lv_iinc (v := x1_51 + 1) (lv' := [(1, .int (x1_51 + 1)), (0, .ref (a 0))]) hx hb dX6_act_79 hl (k := 1) rfl rfl (by decide) rfl (fun ls hl => ?_)
          refine lv_goto (tgt := 51) hx hb dX6_act_82 (by decide) ?_
          exact ih_51 (j_51 + 1) (x1_51 + 1) Rn11 (by rw [ex1_51, nI_1]) (by omega) (by omega) ov13 h014 h1r15 h3r16 hl217 hR _ _ _ hP hD hS (lv_sub hl [1, 0] rfl)
    exact hL_51 290 0 0 R_49 (by decide +kernel) (by decide) (by decide) ov_49 h0_49 h1r_49 h3r_49 hl2_49 hR _ _ _ hP hD hS (lv_sub hl [1, 0] rfl)
  refine lv_icmp_ne (tgt := 49) hx hb dX6_act_5 (by decide) (fun c18 => ?_) (fun c18 => ?_)
  · rw [if_neg c18] at hR
    exact hJ_49 R (sv_dec hv c18) h0_0 h1r_0 h3r_0 hl2_0 hR _ _ _ hP hD hS (lv_sub hl [0] rfl)
  · rw [if_pos c18] at hR
    refine lv_iconst (v := 0) hx hb dX6_act_8 (by decide) ?_
    refine lv_istore_n (lv' := [(1, .int 0), (0, .ref (a 0))]) hx hb dX6_act_9 rfl hl (by decide) rfl (fun ls hl => ?_)
    have hL_10 : ∀ n_10 : Nat, ∀ (j_10 : Nat), ∀ (x1_10 : Int32) (R_10 : SR), x1_10 = nI j_10 → j_10 ≤ 1156 → 1156 < j_10 + n_10 → R_10 6 1 = 5 → R_10 0 = R 0 → R_10 1 = R 1 → R_10 3 = R 3 → R_10 6 2 = R 6 2 → R0 = f_X6_act_p10 n_10 x1_10 R_10 → ∀ (H : Heap) (locs : List Loc) (ls : Array Slot), va_P (dC, dI) vwCl (cMd a cI R_10) H → va_D (va_A (cMd a cI R) s.heap.size) (cMd a cI R_10) → va_S (va_A (cMd a cI R) s.heap.size) s.heap H locs → lv_has ls 2 [(0, .ref (a 0)), (1, .int x1_10)] → W p l e (headSpec wsX6_act rm_X6_act).room s m ([.ref (a 0)] : List Value).toArray below meth c H locs 0 0 (MQ below (va_Qv (fun (u : SR) => u = f_X6_act R ∧ (u 0 = R 0) ∧ (u 1 = R 1) ∧ (u 3 = R 3) ∧ (u 6 2 = R 6 2)) (fun u U => va_P (dC, dI) vwCl (cMd a cI u) U.heap ∧ va_D (va_A (cMd a cI R) s.heap.size) (cMd a cI u)) (va_A (cMd a cI R) s.heap.size)) ([.ref (a 0)] : List Value).toArray s 0 0 (va_A (cMd a cI R) s.heap.size)) (F0 m 10 ls []) := by
      intro n_10
      induction n_10 with
      | zero =>
        intro j_10 x1_10 R_10 ex1_10 hj0_10 hn_10 oa_10 h0_10 h1r_10 h3r_10 hl2_10
        exact absurd hn_10 (by omega)
      | succ n_10 ih_10 =>
        intro j_10 x1_10 R_10 ex1_10 hj0_10 hn_10 oa_10 h0_10 h1r_10 h3r_10 hl2_10 hR H locs ls hP hD hS hl
        rw [f_X6_act_p10] at hR
        refine lv_iload_n hx hb dX6_act_10 rfl (lv_at hl 1 rfl) ?_
        refine lv_sipush (v := 1156) hx hb dX6_act_11 (by decide) ?_
        refine lv_icmp_ge (tgt := 39) hx hb dX6_act_14 (by decide) (fun c19 => ?_) (fun c19 => ?_)
        · rw [if_pos c19] at hR
          refine lv_aload_n hx hb dX6_act_39 rfl (lv_at hl 0 rfl) ?_
          refine lv_dup hx hb dX6_act_40 rfl ?_
          refine va_get (D := (dC, dI)) (ci := 6) (v := .int (R_10 6 1)) (C := RX6) (T := TX6) (N := 15) hx hb hts hin6 hown hK hP 0 rfl rfl 4 (by decide) (hts (.fieldLink RX6 32 "FeedDeskModel" "savedMany" "I") (List.mem_of_getElem? (i := 1) rfl)) (fun _ h9 => h9) rfl dX6_act_41 ?_
          refine lv_iconst (v := 1) hx hb dX6_act_44 (by decide) ?_
          refine lv_isub hx hb dX6_act_45 ?_
          refine va_put (D := (dC, dI)) (ci := 6) (v := .int ((R_10 6 1) - 1)) (ty := .int) (C := RX6) (T := TX6) (N := 15) hx hb hts hin6 tyX6 tyX6_ok nmX6 hown hK hP hD hS 0 rfl rfl 4 (by decide) (hts (.fieldLink RX6 32 "FeedDeskModel" "savedMany" "I") (List.mem_of_getElem? (i := 1) rfl)) (fun _ h9 => h9) rfl (by decide +kernel) rfl rfl (Nat.le_of_ble_eq_true rfl) dX6_act_46 (fun H20 locs hP hD hS => ?_)
          have hP : va_P (dC, dI) vwCl (cMd a cI (sU R_10 6 1 ((R_10 6 1) - 1))) H20 := hP
          have hD : va_D (va_A (cMd a cI R) s.heap.size) (cMd a cI (sU R_10 6 1 ((R_10 6 1) - 1))) := hD
          obtain ⟨Rn21, eRn21⟩ : ∃ z : SR, z = sU R_10 6 1 ((R_10 6 1) - 1) := ⟨_, rfl⟩
          rw [sLet_eq, ← eRn21] at hR
          rw [← eRn21] at hP hD
          have h024 : Rn21 0 = R 0 := (by rw [eRn21]; exact h0_10)
          have h1r25 : Rn21 1 = R 1 := (by rw [eRn21]; exact h1r_10)
          have h3r26 : Rn21 3 = R 3 := (by rw [eRn21]; exact h3r_10)
          have hl227 : Rn21 6 2 = R 6 2 := (by rw [eRn21]; exact hl2_10)
          have ov28 : vp_in (Rn21 6 1) 5 := by rw [eRn21]; show vp_in (R_10 6 1 - 1) 5; rw [oa_10]; exact vp_of_B (by decide +kernel)
          exact hJ_49 Rn21 ov28 h024 h1r25 h3r26 hl227 hR _ _ _ hP hD hS (lv_sub hl [0] rfl)
        · rw [if_neg c19] at hR
          have hj_10 : j_10 < 1156 := lp_ge ex1_10 (by decide +kernel) (by omega) (by omega) c19
          refine lv_aload_n hx hb dX6_act_17 rfl (lv_at hl 0 rfl) ?_
          refine va_get (D := (dC, dI)) (ci := 6) (v := .ref (a 3)) (C := RX6) (T := TX6) (N := 15) hx hb hts hin6 hown hK hP 0 rfl rfl 3 (by decide) (hts (.fieldLink RX6 16 "FeedDeskModel" "saved" "[I") (List.mem_of_getElem? (i := 2) rfl)) (fun _ h9 => h9) rfl dX6_act_18 ?_
          refine lv_iload_n hx hb dX6_act_21 rfl (lv_at hl 1 rfl) ?_
          refine lv_aload_n hx hb dX6_act_22 rfl (lv_at hl 0 rfl) ?_
          refine va_get (D := (dC, dI)) (ci := 6) (v := .ref (a 3)) (C := RX6) (T := TX6) (N := 15) hx hb hts hin6 hown hK hP 0 rfl rfl 3 (by decide) (hts (.fieldLink RX6 16 "FeedDeskModel" "saved" "[I") (List.mem_of_getElem? (i := 2) rfl)) (fun _ h9 => h9) rfl dX6_act_23 ?_
          refine lv_iload_n hx hb dX6_act_26 rfl (lv_at hl 1 rfl) ?_
          refine lv_sipush (v := 289) hx hb dX6_act_27 (by decide) ?_
          refine lv_iadd hx hb dX6_act_30 ?_
          refine va_iald (f := R_10 2) hx hb hK hP 3 0 rfl rfl (by rw [ex1_10]; exact vp_of_B (ix_36 j_10 hj_10)) dX6_act_31 ?_
          refine va_iast (f := R_10 2) hx hb hK hP hD hS 3 0 rfl rfl (by rw [ex1_10]; exact vp_of_B (ix_37 j_10 hj_10)) dX6_act_32 (fun H29 locs hP hD hS => ?_)
          have hP : va_P (dC, dI) vwCl (cMd a cI (sU R_10 2 x1_10.toNatClampNeg (R_10 2 (x1_10 + 289).toNatClampNeg))) H29 := hP
          have hD : va_D (va_A (cMd a cI R) s.heap.size) (cMd a cI (sU R_10 2 x1_10.toNatClampNeg (R_10 2 (x1_10 + 289).toNatClampNeg))) := hD
          obtain ⟨Rn30, eRn30⟩ : ∃ z : SR, z = sU R_10 2 x1_10.toNatClampNeg (R_10 2 (x1_10 + 289).toNatClampNeg) := ⟨_, rfl⟩
          rw [sLet_eq, ← eRn30] at hR
          rw [← eRn30] at hP hD
          have oa31 : Rn30 6 1 = 5 := (by rw [eRn30]; exact oa_10)
          have h033 : Rn30 0 = R 0 := (by rw [eRn30]; exact h0_10)
          have h1r34 : Rn30 1 = R 1 := (by rw [eRn30]; exact h1r_10)
          have h3r35 : Rn30 3 = R 3 := (by rw [eRn30]; exact h3r_10)
          have hl236 : Rn30 6 2 = R 6 2 := (by rw [eRn30]; exact hl2_10)
          refine lv_iinc (v := x1_10 + 1) (lv' := [(1, .int (x1_10 + 1)), (0, .ref (a 0))]) hx hb dX6_act_33 hl (k := 1) rfl rfl (by decide) rfl (fun ls hl => ?_)
          refine lv_goto (tgt := 10) hx hb dX6_act_36 (by decide) ?_
          exact ih_10 (j_10 + 1) (x1_10 + 1) Rn30 (by rw [ex1_10, nI_1]) (by omega) (by omega) oa31 h033 h1r34 h3r35 hl236 hR _ _ _ hP hD hS (lv_sub hl [1, 0] rfl)
    exact hL_10 1157 0 0 R (by decide +kernel) (by decide) (by decide) c18 h0_0 h1r_0 h3r_0 hl2_0 hR _ _ _ hP hD hS (lv_sub hl [1, 0] rfl)
abbrev rm_X6_hold : Room := { frames := 0, cells := 0, slots := 0, locals := 0 }
def f_X6_hold_p2   : Nat → Int32 → SR → SR
  | 0, _, R_2 => R_2
  | n_2 + 1, x1_2, R_2 => (if 289 ≤ x1_2 then R_2 else sLet (sU R_2 1 x1_2.toNatClampNeg (R_2 0 x1_2.toNatClampNeg)) (fun Rn3 : SR => (f_X6_hold_p2 n_2) (x1_2 + 1) Rn3))
def f_X6_hold (R : SR)  : SR := f_X6_hold_p2 290 0 R
set_option maxHeartbeats 4000000 in
set_option maxRecDepth 100000 in
theorem c_X6_hold (l : Launch) (dC : Nat → ClassId) (dI : Nat → Nat → Nat) (cI cC cS : ClassId) (a : Nat → Nat) (R : SR) (sz : Nat)   : Met l yX6_hold wsX6_hold rm_X6_hold (PcG (dC, dI) (tyL cI cC cS) (cMd a cI R) sz [.ref (a 0)]) (va_Qv (fun (u : SR) => u = f_X6_hold R ∧ (u 0 = R 0) ∧ (u 2 = R 2) ∧ (u 3 = R 3) ∧ (u 6 1 = R 6 1) ∧ (u 6 2 = R 6 2)) (fun u U => va_P (dC, dI) vwCl (cMd a cI u) U.heap ∧ va_D (va_A (cMd a cI R) sz) (cMd a cI u)) (va_A (cMd a cI R) sz)) 0 0 (va_A (cMd a cI R) sz) := by
  refine Met.ofW (cc := cX6_hold) (maxL := 2) (ret := none) (by decide) rfl ?_
  intro p e s m args below meth c s₁ B hml hv
  obtain ⟨rfl, hsz, hP, hK, hD0, hN⟩ := hv
  have hx := B.exec
  have hb := B.bytes
  have hr := B.returns
  have hts := atoms_spec (ws := wsX6_hold) B.pre
  have hown : s.vm.findClass RX6 = some m.cls := findClass_of_methodNamed B.named
  have hlocks := B.notSynchronized
  subst hsz
  have hD := hD0.self (sz := s.heap.size)
  have hA : ∀ q : Nat, s.heap.size ≤ q → (va_A (cMd a cI R) s.heap.size) q := fun q h => Or.inr h
  have hS : va_S (va_A (cMd a cI R) s.heap.size) s.heap s.heap [] := va_S.rf
  have hin6 : ∀ w ∈ wsX60, w ∈ wsX6_hold := fun _ h => List.mem_cons_of_mem _ (List.mem_append_right _ h)
  have h0_0 : R 0 = R 0 := rfl
  have h2r_0 : R 2 = R 2 := rfl
  have h3r_0 : R 3 = R 3 := rfl
  have h61_0 : R 6 1 = R 6 1 := rfl
  have hl2_0 : R 6 2 = R 6 2 := rfl
  have hl := lv_entry [.ref (a 0)] (n := 2) (Nat.le_of_ble_eq_true rfl)
  rw [lg_entry_eq]
  generalize (lg_sl [.ref (a 0)] ++ List.replicate (2 - (lg_sl [.ref (a 0)]).length) Slot.unset).toArray = ls at hl ⊢
  have hl : lv_has ls 2 [(0, .ref (a 0))] := hl
  obtain ⟨R0, eR⟩ : ∃ z, z = f_X6_hold R := ⟨_, rfl⟩
  have hR := eR
  rw [f_X6_hold] at hR
  refine lv_iconst (v := 0) hx hb dX6_hold_0 (by decide) ?_
  refine lv_istore_n (lv' := [(1, .int 0), (0, .ref (a 0))]) hx hb dX6_hold_1 rfl hl (by decide) rfl (fun ls hl => ?_)
  have hL_2 : ∀ n_2 : Nat, ∀ (j_2 : Nat), ∀ (x1_2 : Int32) (R_2 : SR), x1_2 = nI j_2 → j_2 ≤ 289 → 289 < j_2 + n_2 → R_2 0 = R 0 → R_2 2 = R 2 → R_2 3 = R 3 → R_2 6 1 = R 6 1 → R_2 6 2 = R 6 2 → R0 = f_X6_hold_p2 n_2 x1_2 R_2 → ∀ (H : Heap) (locs : List Loc) (ls : Array Slot), va_P (dC, dI) vwCl (cMd a cI R_2) H → va_D (va_A (cMd a cI R) s.heap.size) (cMd a cI R_2) → va_S (va_A (cMd a cI R) s.heap.size) s.heap H locs → lv_has ls 2 [(0, .ref (a 0)), (1, .int x1_2)] → W p l e (headSpec wsX6_hold rm_X6_hold).room s m ([.ref (a 0)] : List Value).toArray below meth c H locs 0 0 (MQ below (va_Qv (fun (u : SR) => u = f_X6_hold R ∧ (u 0 = R 0) ∧ (u 2 = R 2) ∧ (u 3 = R 3) ∧ (u 6 1 = R 6 1) ∧ (u 6 2 = R 6 2)) (fun u U => va_P (dC, dI) vwCl (cMd a cI u) U.heap ∧ va_D (va_A (cMd a cI R) s.heap.size) (cMd a cI u)) (va_A (cMd a cI R) s.heap.size)) ([.ref (a 0)] : List Value).toArray s 0 0 (va_A (cMd a cI R) s.heap.size)) (F0 m 2 ls []) := by
    intro n_2
    induction n_2 with
    | zero =>
      intro j_2 x1_2 R_2 ex1_2 hj0_2 hn_2 h0_2 h2r_2 h3r_2 h61_2 hl2_2
      exact absurd hn_2 (by omega)
    | succ n_2 ih_2 =>
      intro j_2 x1_2 R_2 ex1_2 hj0_2 hn_2 h0_2 h2r_2 h3r_2 h61_2 hl2_2 hR H locs ls hP hD hS hl
      rw [f_X6_hold_p2] at hR
      refine lv_iload_n hx hb dX6_hold_2 rfl (lv_at hl 1 rfl) ?_
      refine lv_sipush (v := 289) hx hb dX6_hold_3 (by decide) ?_
      refine lv_icmp_ge (tgt := 27) hx hb dX6_hold_6 (by decide) (fun c1 => ?_) (fun c1 => ?_)
      · rw [if_pos c1] at hR
        exact W.vret hx hb hr (fun t ht hWw => ⟨⟨R_2, rfl, ⟨hR.symm.trans eR, h0_2, h2r_2, h3r_2, h61_2, hl2_2⟩, by rw [ht]; exact hP, hD⟩, hS.F ht⟩) hS.2.2 dX6_hold_27
      · rw [if_neg c1] at hR
        have hj_2 : j_2 < 289 := lp_ge ex1_2 (by decide +kernel) (by omega) (by omega) c1
        refine lv_aload_n hx hb dX6_hold_9 rfl (lv_at hl 0 rfl) ?_
        refine va_get (D := (dC, dI)) (ci := 6) (v := .ref (a 2)) (C := RX6) (T := TX6) (N := 15) hx hb hts hin6 hown hK hP 0 rfl rfl 2 (by decide) (hts (.fieldLink RX6 13 "FeedDeskModel" "aside" "[I") (List.mem_of_getElem? (i := 1) rfl)) (fun _ h9 => h9) rfl dX6_hold_10 ?_
        refine lv_iload_n hx hb dX6_hold_13 rfl (lv_at hl 1 rfl) ?_
        refine lv_aload_n hx hb dX6_hold_14 rfl (lv_at hl 0 rfl) ?_
        refine va_get (D := (dC, dI)) (ci := 6) (v := .ref (a 1)) (C := RX6) (T := TX6) (N := 15) hx hb hts hin6 hown hK hP 0 rfl rfl 1 (by decide) (hts (.fieldLink RX6 7 "FeedDeskModel" "s" "[I") (List.mem_of_getElem? (i := 2) rfl)) (fun _ h9 => h9) rfl dX6_hold_15 ?_
        refine lv_iload_n hx hb dX6_hold_18 rfl (lv_at hl 1 rfl) ?_
        refine va_iald (f := R_2 0) hx hb hK hP 1 0 rfl rfl (by rw [ex1_2]; exact vp_of_B (ix_35 j_2 hj_2)) dX6_hold_19 ?_
        refine va_iast (f := R_2 1) hx hb hK hP hD hS 2 0 rfl rfl (by rw [ex1_2]; exact vp_of_B (ix_35 j_2 hj_2)) dX6_hold_20 (fun H2 locs hP hD hS => ?_)
        have hP : va_P (dC, dI) vwCl (cMd a cI (sU R_2 1 x1_2.toNatClampNeg (R_2 0 x1_2.toNatClampNeg))) H2 := hP
        have hD : va_D (va_A (cMd a cI R) s.heap.size) (cMd a cI (sU R_2 1 x1_2.toNatClampNeg (R_2 0 x1_2.toNatClampNeg))) := hD
        obtain ⟨Rn3, eRn3⟩ : ∃ z : SR, z = sU R_2 1 x1_2.toNatClampNeg (R_2 0 x1_2.toNatClampNeg) := ⟨_, rfl⟩
        rw [sLet_eq, ← eRn3] at hR
        rw [← eRn3] at hP hD
        have h04 : Rn3 0 = R 0 := (by rw [eRn3]; exact h0_2)
        have h2r5 : Rn3 2 = R 2 := (by rw [eRn3]; exact h2r_2)
        have h3r6 : Rn3 3 = R 3 := (by rw [eRn3]; exact h3r_2)
        have h617 : Rn3 6 1 = R 6 1 := (by rw [eRn3]; exact h61_2)
        have hl28 : Rn3 6 2 = R 6 2 := (by rw [eRn3]; exact hl2_2)
        refine lv_iinc (v := x1_2 + 1) (lv' := [(1, .int (x1_2 + 1)), (0, .ref (a 0))]) hx hb dX6_hold_21 hl (k := 1) rfl rfl (by decide) rfl (fun ls hl => ?_)
        refine lv_goto (tgt := 2) hx hb dX6_hold_24 (by decide) ?_
        exact ih_2 (j_2 + 1) (x1_2 + 1) Rn3 (by rw [ex1_2, nI_1]) (by omega) (by omega) h04 h2r5 h3r6 h617 hl28 hR _ _ _ hP hD hS (lv_sub hl [1, 0] rfl)
  exact hL_2 290 0 0 R (by decide +kernel) (by decide) (by decide) h0_0 h2r_0 h3r_0 h61_0 hl2_0 hR _ _ _ hP hD hS (lv_sub hl [1, 0] rfl)
abbrev rm_X6_release : Room := { frames := 0, cells := 0, slots := 0, locals := 0 }
def f_X6_release_p2   : Nat → Int32 → SR → SR
  | 0, _, R_2 => R_2
  | n_2 + 1, x1_2, R_2 => (if 289 ≤ x1_2 then R_2 else sLet (sU R_2 0 x1_2.toNatClampNeg (R_2 1 x1_2.toNatClampNeg)) (fun Rn3 : SR => (f_X6_release_p2 n_2) (x1_2 + 1) Rn3))
def f_X6_release (R : SR)  : SR := f_X6_release_p2 290 0 R
set_option maxHeartbeats 4000000 in
set_option maxRecDepth 100000 in
theorem c_X6_release (l : Launch) (dC : Nat → ClassId) (dI : Nat → Nat → Nat) (cI cC cS : ClassId) (a : Nat → Nat) (R : SR) (sz : Nat)   : Met l yX6_release wsX6_release rm_X6_release (PcG (dC, dI) (tyL cI cC cS) (cMd a cI R) sz [.ref (a 0)]) (va_Qv (fun (u : SR) => u = f_X6_release R ∧ (u 1 = R 1) ∧ (u 2 = R 2) ∧ (u 3 = R 3) ∧ (u 6 1 = R 6 1) ∧ (u 6 2 = R 6 2)) (fun u U => va_P (dC, dI) vwCl (cMd a cI u) U.heap ∧ va_D (va_A (cMd a cI R) sz) (cMd a cI u)) (va_A (cMd a cI R) sz)) 0 0 (va_A (cMd a cI R) sz) := by
  refine Met.ofW (cc := cX6_release) (maxL := 2) (ret := none) (by decide) rfl ?_
  intro p e s m args below meth c s₁ B hml hv
  obtain ⟨rfl, hsz, hP, hK, hD0, hN⟩ := hv
  have hx := B.exec
  have hb := B.bytes
  have hr := B.returns
  have hts := atoms_spec (ws := wsX6_release) B.pre
  have hown : s.vm.findClass RX6 = some m.cls := findClass_of_methodNamed B.named
  have hlocks := B.notSynchronized
  subst hsz
  have hD := hD0.self (sz := s.heap.size)
  have hA : ∀ q : Nat, s.heap.size ≤ q → (va_A (cMd a cI R) s.heap.size) q := fun q h => Or.inr h
  have hS : va_S (va_A (cMd a cI R) s.heap.size) s.heap s.heap [] := va_S.rf
  have hin6 : ∀ w ∈ wsX60, w ∈ wsX6_release := fun _ h => List.mem_cons_of_mem _ (List.mem_append_right _ h)
  have h1r_0 : R 1 = R 1 := rfl
  have h2r_0 : R 2 = R 2 := rfl
  have h3r_0 : R 3 = R 3 := rfl
  have h61_0 : R 6 1 = R 6 1 := rfl
  have hl2_0 : R 6 2 = R 6 2 := rfl
  have hl := lv_entry [.ref (a 0)] (n := 2) (Nat.le_of_ble_eq_true rfl)
  rw [lg_entry_eq]
  generalize (lg_sl [.ref (a 0)] ++ List.replicate (2 - (lg_sl [.ref (a 0)]).length) Slot.unset).toArray = ls at hl ⊢
  have hl : lv_has ls 2 [(0, .ref (a 0))] := hl
  obtain ⟨R0, eR⟩ : ∃ z, z = f_X6_release R := ⟨_, rfl⟩
  have hR := eR
  rw [f_X6_release] at hR
  refine lv_iconst (v := 0) hx hb dX6_release_0 (by decide) ?_
  refine lv_istore_n (lv' := [(1, .int 0), (0, .ref (a 0))]) hx hb dX6_release_1 rfl hl (by decide) rfl (fun ls hl => ?_)
  have hL_2 : ∀ n_2 : Nat, ∀ (j_2 : Nat), ∀ (x1_2 : Int32) (R_2 : SR), x1_2 = nI j_2 → j_2 ≤ 289 → 289 < j_2 + n_2 → R_2 1 = R 1 → R_2 2 = R 2 → R_2 3 = R 3 → R_2 6 1 = R 6 1 → R_2 6 2 = R 6 2 → R0 = f_X6_release_p2 n_2 x1_2 R_2 → ∀ (H : Heap) (locs : List Loc) (ls : Array Slot), va_P (dC, dI) vwCl (cMd a cI R_2) H → va_D (va_A (cMd a cI R) s.heap.size) (cMd a cI R_2) → va_S (va_A (cMd a cI R) s.heap.size) s.heap H locs → lv_has ls 2 [(0, .ref (a 0)), (1, .int x1_2)] → W p l e (headSpec wsX6_release rm_X6_release).room s m ([.ref (a 0)] : List Value).toArray below meth c H locs 0 0 (MQ below (va_Qv (fun (u : SR) => u = f_X6_release R ∧ (u 1 = R 1) ∧ (u 2 = R 2) ∧ (u 3 = R 3) ∧ (u 6 1 = R 6 1) ∧ (u 6 2 = R 6 2)) (fun u U => va_P (dC, dI) vwCl (cMd a cI u) U.heap ∧ va_D (va_A (cMd a cI R) s.heap.size) (cMd a cI u)) (va_A (cMd a cI R) s.heap.size)) ([.ref (a 0)] : List Value).toArray s 0 0 (va_A (cMd a cI R) s.heap.size)) (F0 m 2 ls []) := by
    intro n_2
    induction n_2 with
    | zero =>
      intro j_2 x1_2 R_2 ex1_2 hj0_2 hn_2 h1r_2 h2r_2 h3r_2 h61_2 hl2_2
      exact absurd hn_2 (by omega)
    | succ n_2 ih_2 =>
      intro j_2 x1_2 R_2 ex1_2 hj0_2 hn_2 h1r_2 h2r_2 h3r_2 h61_2 hl2_2 hR H locs ls hP hD hS hl
      rw [f_X6_release_p2] at hR
      refine lv_iload_n hx hb dX6_release_2 rfl (lv_at hl 1 rfl) ?_
      refine lv_sipush (v := 289) hx hb dX6_release_3 (by decide) ?_
      refine lv_icmp_ge (tgt := 27) hx hb dX6_release_6 (by decide) (fun c1 => ?_) (fun c1 => ?_)
      · rw [if_pos c1] at hR
        exact W.vret hx hb hr (fun t ht hWw => ⟨⟨R_2, rfl, ⟨hR.symm.trans eR, h1r_2, h2r_2, h3r_2, h61_2, hl2_2⟩, by rw [ht]; exact hP, hD⟩, hS.F ht⟩) hS.2.2 dX6_release_27
      · rw [if_neg c1] at hR
        have hj_2 : j_2 < 289 := lp_ge ex1_2 (by decide +kernel) (by omega) (by omega) c1
        refine lv_aload_n hx hb dX6_release_9 rfl (lv_at hl 0 rfl) ?_
        refine va_get (D := (dC, dI)) (ci := 6) (v := .ref (a 1)) (C := RX6) (T := TX6) (N := 15) hx hb hts hin6 hown hK hP 0 rfl rfl 1 (by decide) (hts (.fieldLink RX6 7 "FeedDeskModel" "s" "[I") (List.mem_of_getElem? (i := 1) rfl)) (fun _ h9 => h9) rfl dX6_release_10 ?_
        refine lv_iload_n hx hb dX6_release_13 rfl (lv_at hl 1 rfl) ?_
        refine lv_aload_n hx hb dX6_release_14 rfl (lv_at hl 0 rfl) ?_
        refine va_get (D := (dC, dI)) (ci := 6) (v := .ref (a 2)) (C := RX6) (T := TX6) (N := 15) hx hb hts hin6 hown hK hP 0 rfl rfl 2 (by decide) (hts (.fieldLink RX6 13 "FeedDeskModel" "aside" "[I") (List.mem_of_getElem? (i := 2) rfl)) (fun _ h9 => h9) rfl dX6_release_15 ?_
        refine lv_iload_n hx hb dX6_release_18 rfl (lv_at hl 1 rfl) ?_
        refine va_iald (f := R_2 1) hx hb hK hP 2 0 rfl rfl (by rw [ex1_2]; exact vp_of_B (ix_35 j_2 hj_2)) dX6_release_19 ?_
        refine va_iast (f := R_2 0) hx hb hK hP hD hS 1 0 rfl rfl (by rw [ex1_2]; exact vp_of_B (ix_35 j_2 hj_2)) dX6_release_20 (fun H2 locs hP hD hS => ?_)
        have hP : va_P (dC, dI) vwCl (cMd a cI (sU R_2 0 x1_2.toNatClampNeg (R_2 1 x1_2.toNatClampNeg))) H2 := hP
        have hD : va_D (va_A (cMd a cI R) s.heap.size) (cMd a cI (sU R_2 0 x1_2.toNatClampNeg (R_2 1 x1_2.toNatClampNeg))) := hD
        obtain ⟨Rn3, eRn3⟩ : ∃ z : SR, z = sU R_2 0 x1_2.toNatClampNeg (R_2 1 x1_2.toNatClampNeg) := ⟨_, rfl⟩
        rw [sLet_eq, ← eRn3] at hR
        rw [← eRn3] at hP hD
        have h1r4 : Rn3 1 = R 1 := (by rw [eRn3]; exact h1r_2)
        have h2r5 : Rn3 2 = R 2 := (by rw [eRn3]; exact h2r_2)
        have h3r6 : Rn3 3 = R 3 := (by rw [eRn3]; exact h3r_2)
        have h617 : Rn3 6 1 = R 6 1 := (by rw [eRn3]; exact h61_2)
        have hl28 : Rn3 6 2 = R 6 2 := (by rw [eRn3]; exact hl2_2)
        refine lv_iinc (v := x1_2 + 1) (lv' := [(1, .int (x1_2 + 1)), (0, .ref (a 0))]) hx hb dX6_release_21 hl (k := 1) rfl rfl (by decide) rfl (fun ls hl => ?_)
        refine lv_goto (tgt := 2) hx hb dX6_release_24 (by decide) ?_
        exact ih_2 (j_2 + 1) (x1_2 + 1) Rn3 (by rw [ex1_2, nI_1]) (by omega) (by omega) h1r4 h2r5 h3r6 h617 hl28 hR _ _ _ hP hD hS (lv_sub hl [1, 0] rfl)
  exact hL_2 290 0 0 R (by decide +kernel) (by decide) (by decide) h1r_0 h2r_0 h3r_0 h61_0 hl2_0 hR _ _ _ hP hD hS (lv_sub hl [1, 0] rfl)
abbrev rm_X6_exchange : Room := { frames := 0, cells := 0, slots := 0, locals := 0 }
def f_X6_exchange_p2   : Nat → Int32 → SR → SR
  | 0, _, R_2 => R_2
  | n_2 + 1, x1_2, R_2 => (if 289 ≤ x1_2 then R_2 else sLet (sU R_2 0 x1_2.toNatClampNeg (R_2 1 x1_2.toNatClampNeg)) (fun Rn3 : SR => sLet (sU Rn3 1 x1_2.toNatClampNeg (R_2 0 x1_2.toNatClampNeg)) (fun Rn9 : SR => (f_X6_exchange_p2 n_2) (x1_2 + 1) Rn9)))
def f_X6_exchange (R : SR)  : SR := f_X6_exchange_p2 290 0 R
set_option maxHeartbeats 4000000 in
set_option maxRecDepth 100000 in
theorem c_X6_exchange (l : Launch) (dC : Nat → ClassId) (dI : Nat → Nat → Nat) (cI cC cS : ClassId) (a : Nat → Nat) (R : SR) (sz : Nat)   : Met l yX6_exchange wsX6_exchange rm_X6_exchange (PcG (dC, dI) (tyL cI cC cS) (cMd a cI R) sz [.ref (a 0)]) (va_Qv (fun (u : SR) => u = f_X6_exchange R ∧ (u 2 = R 2) ∧ (u 3 = R 3) ∧ (u 6 1 = R 6 1) ∧ (u 6 2 = R 6 2)) (fun u U => va_P (dC, dI) vwCl (cMd a cI u) U.heap ∧ va_D (va_A (cMd a cI R) sz) (cMd a cI u)) (va_A (cMd a cI R) sz)) 0 0 (va_A (cMd a cI R) sz) := by
  refine Met.ofW (cc := cX6_exchange) (maxL := 3) (ret := none) (by decide) rfl ?_
  intro p e s m args below meth c s₁ B hml hv
  obtain ⟨rfl, hsz, hP, hK, hD0, hN⟩ := hv
  have hx := B.exec
  have hb := B.bytes
  have hr := B.returns
  have hts := atoms_spec (ws := wsX6_exchange) B.pre
  have hown : s.vm.findClass RX6 = some m.cls := findClass_of_methodNamed B.named
  have hlocks := B.notSynchronized
  subst hsz
  have hD := hD0.self (sz := s.heap.size)
  have hA : ∀ q : Nat, s.heap.size ≤ q → (va_A (cMd a cI R) s.heap.size) q := fun q h => Or.inr h
  have hS : va_S (va_A (cMd a cI R) s.heap.size) s.heap s.heap [] := va_S.rf
  have hin6 : ∀ w ∈ wsX60, w ∈ wsX6_exchange := fun _ h => List.mem_cons_of_mem _ (List.mem_append_right _ h)
  have h2r_0 : R 2 = R 2 := rfl
  have h3r_0 : R 3 = R 3 := rfl
  have h61_0 : R 6 1 = R 6 1 := rfl
  have hl2_0 : R 6 2 = R 6 2 := rfl
  have hl := lv_entry [.ref (a 0)] (n := 3) (Nat.le_of_ble_eq_true rfl)
  rw [lg_entry_eq]
  generalize (lg_sl [.ref (a 0)] ++ List.replicate (3 - (lg_sl [.ref (a 0)]).length) Slot.unset).toArray = ls at hl ⊢
  have hl : lv_has ls 3 [(0, .ref (a 0))] := hl
  obtain ⟨R0, eR⟩ : ∃ z, z = f_X6_exchange R := ⟨_, rfl⟩
  have hR := eR
  rw [f_X6_exchange] at hR
  refine lv_iconst (v := 0) hx hb dX6_exchange_0 (by decide) ?_
  refine lv_istore_n (lv' := [(1, .int 0), (0, .ref (a 0))]) hx hb dX6_exchange_1 rfl hl (by decide) rfl (fun ls hl => ?_)
  have hL_2 : ∀ n_2 : Nat, ∀ (j_2 : Nat), ∀ (x1_2 : Int32) (R_2 : SR), x1_2 = nI j_2 → j_2 ≤ 289 → 289 < j_2 + n_2 → R_2 2 = R 2 → R_2 3 = R 3 → R_2 6 1 = R 6 1 → R_2 6 2 = R 6 2 → R0 = f_X6_exchange_p2 n_2 x1_2 R_2 → ∀ (H : Heap) (locs : List Loc) (ls : Array Slot), va_P (dC, dI) vwCl (cMd a cI R_2) H → va_D (va_A (cMd a cI R) s.heap.size) (cMd a cI R_2) → va_S (va_A (cMd a cI R) s.heap.size) s.heap H locs → lv_has ls 3 [(0, .ref (a 0)), (1, .int x1_2)] → W p l e (headSpec wsX6_exchange rm_X6_exchange).room s m ([.ref (a 0)] : List Value).toArray below meth c H locs 0 0 (MQ below (va_Qv (fun (u : SR) => u = f_X6_exchange R ∧ (u 2 = R 2) ∧ (u 3 = R 3) ∧ (u 6 1 = R 6 1) ∧ (u 6 2 = R 6 2)) (fun u U => va_P (dC, dI) vwCl (cMd a cI u) U.heap ∧ va_D (va_A (cMd a cI R) s.heap.size) (cMd a cI u)) (va_A (cMd a cI R) s.heap.size)) ([.ref (a 0)] : List Value).toArray s 0 0 (va_A (cMd a cI R) s.heap.size)) (F0 m 2 ls []) := by
    intro n_2
    induction n_2 with
    | zero =>
      intro j_2 x1_2 R_2 ex1_2 hj0_2 hn_2 h2r_2 h3r_2 h61_2 hl2_2
      exact absurd hn_2 (by omega)
    | succ n_2 ih_2 =>
      intro j_2 x1_2 R_2 ex1_2 hj0_2 hn_2 h2r_2 h3r_2 h61_2 hl2_2 hR H locs ls hP hD hS hl
      rw [f_X6_exchange_p2] at hR
      refine lv_iload_n hx hb dX6_exchange_2 rfl (lv_at hl 1 rfl) ?_
      refine lv_sipush (v := 289) hx hb dX6_exchange_3 (by decide) ?_
      refine lv_icmp_ge (tgt := 41) hx hb dX6_exchange_6 (by decide) (fun c1 => ?_) (fun c1 => ?_)
      · rw [if_pos c1] at hR
        exact W.vret hx hb hr (fun t ht hWw => ⟨⟨R_2, rfl, ⟨hR.symm.trans eR, h2r_2, h3r_2, h61_2, hl2_2⟩, by rw [ht]; exact hP, hD⟩, hS.F ht⟩) hS.2.2 dX6_exchange_41
      · rw [if_neg c1] at hR
        have hj_2 : j_2 < 289 := lp_ge ex1_2 (by decide +kernel) (by omega) (by omega) c1
        refine lv_aload_n hx hb dX6_exchange_9 rfl (lv_at hl 0 rfl) ?_
        refine va_get (D := (dC, dI)) (ci := 6) (v := .ref (a 1)) (C := RX6) (T := TX6) (N := 15) hx hb hts hin6 hown hK hP 0 rfl rfl 1 (by decide) (hts (.fieldLink RX6 7 "FeedDeskModel" "s" "[I") (List.mem_of_getElem? (i := 1) rfl)) (fun _ h9 => h9) rfl dX6_exchange_10 ?_
        refine lv_iload_n hx hb dX6_exchange_13 rfl (lv_at hl 1 rfl) ?_
        refine va_iald (f := R_2 0) hx hb hK hP 1 0 rfl rfl (by rw [ex1_2]; exact vp_of_B (ix_35 j_2 hj_2)) dX6_exchange_14 ?_
        refine lv_istore_n (lv' := [(2, .int (R_2 0 x1_2.toNatClampNeg)), (0, .ref (a 0)), (1, .int x1_2)]) hx hb dX6_exchange_15 rfl hl (by decide) rfl (fun ls hl => ?_)
        refine lv_aload_n hx hb dX6_exchange_16 rfl (lv_at hl 1 rfl) ?_
        refine va_get (D := (dC, dI)) (ci := 6) (v := .ref (a 1)) (C := RX6) (T := TX6) (N := 15) hx hb hts hin6 hown hK hP 0 rfl rfl 1 (by decide) (hts (.fieldLink RX6 7 "FeedDeskModel" "s" "[I") (List.mem_of_getElem? (i := 1) rfl)) (fun _ h9 => h9) rfl dX6_exchange_17 ?_
        refine lv_iload_n hx hb dX6_exchange_20 rfl (lv_at hl 2 rfl) ?_
        refine lv_aload_n hx hb dX6_exchange_21 rfl (lv_at hl 1 rfl) ?_
        refine va_get (D := (dC, dI)) (ci := 6) (v := .ref (a 2)) (C := RX6) (T := TX6) (N := 15) hx hb hts hin6 hown hK hP 0 rfl rfl 2 (by decide) (hts (.fieldLink RX6 13 "FeedDeskModel" "aside" "[I") (List.mem_of_getElem? (i := 2) rfl)) (fun _ h9 => h9) rfl dX6_exchange_22 ?_
        refine lv_iload_n hx hb dX6_exchange_25 rfl (lv_at hl 2 rfl) ?_
        refine va_iald (f := R_2 1) hx hb hK hP 2 0 rfl rfl (by rw [ex1_2]; exact vp_of_B (ix_35 j_2 hj_2)) dX6_exchange_26 ?_
        refine va_iast (f := R_2 0) hx hb hK hP hD hS 1 0 rfl rfl (by rw [ex1_2]; exact vp_of_B (ix_35 j_2 hj_2)) dX6_exchange_27 (fun H2 locs hP hD hS => ?_)
        have hP : va_P (dC, dI) vwCl (cMd a cI (sU R_2 0 x1_2.toNatClampNeg (R_2 1 x1_2.toNatClampNeg))) H2 := hP
        have hD : va_D (va_A (cMd a cI R) s.heap.size) (cMd a cI (sU R_2 0 x1_2.toNatClampNeg (R_2 1 x1_2.toNatClampNeg))) := hD
        obtain ⟨Rn3, eRn3⟩ : ∃ z : SR, z = sU R_2 0 x1_2.toNatClampNeg (R_2 1 x1_2.toNatClampNeg) := ⟨_, rfl⟩
        rw [sLet_eq, ← eRn3] at hR
        rw [← eRn3] at hP hD
        have h2r4 : Rn3 2 = R 2 := (by rw [eRn3]; exact h2r_2)
        have h3r5 : Rn3 3 = R 3 := (by rw [eRn3]; exact h3r_2)
        have h616 : Rn3 6 1 = R 6 1 := (by rw [eRn3]; exact h61_2)
        have hl27 : Rn3 6 2 = R 6 2 := (by rw [eRn3]; exact hl2_2)
        refine lv_aload_n hx hb dX6_exchange_28 rfl (lv_at hl 1 rfl) ?_
        refine va_get (D := (dC, dI)) (ci := 6) (v := .ref (a 2)) (C := RX6) (T := TX6) (N := 15) hx hb hts hin6 hown hK hP 0 rfl rfl 2 (by decide) (hts (.fieldLink RX6 13 "FeedDeskModel" "aside" "[I") (List.mem_of_getElem? (i := 2) rfl)) (fun _ h9 => h9) rfl dX6_exchange_29 ?_
        refine lv_iload_n hx hb dX6_exchange_32 rfl (lv_at hl 2 rfl) ?_
        refine lv_iload_n hx hb dX6_exchange_33 rfl (lv_at hl 0 rfl) ?_
        refine va_iast (f := Rn3 1) hx hb hK hP hD hS 2 0 rfl rfl (by rw [ex1_2]; exact vp_of_B (ix_35 j_2 hj_2)) dX6_exchange_34 (fun H8 locs hP hD hS => ?_)
        have hP : va_P (dC, dI) vwCl (cMd a cI (sU Rn3 1 x1_2.toNatClampNeg (R_2 0 x1_2.toNatClampNeg))) H8 := hP
        have hD : va_D (va_A (cMd a cI R) s.heap.size) (cMd a cI (sU Rn3 1 x1_2.toNatClampNeg (R_2 0 x1_2.toNatClampNeg))) := hD
        obtain ⟨Rn9, eRn9⟩ : ∃ z : SR, z = sU Rn3 1 x1_2.toNatClampNeg (R_2 0 x1_2.toNatClampNeg) := ⟨_, rfl⟩
        rw [sLet_eq, ← eRn9] at hR
        rw [← eRn9] at hP hD
        have h2r10 : Rn9 2 = R 2 := (by rw [eRn9]; exact h2r4)
        have h3r11 : Rn9 3 = R 3 := (by rw [eRn9]; exact h3r5)
        have h6112 : Rn9 6 1 = R 6 1 := (by rw [eRn9]; exact h616)
        have hl213 : Rn9 6 2 = R 6 2 := (by rw [eRn9]; exact hl27)
        refine lv_iinc (v := x1_2 + 1) (lv' := [(1, .int (x1_2 + 1)), (2, .int (R_2 0 x1_2.toNatClampNeg)), (0, .ref (a 0))]) hx hb dX6_exchange_35 hl (k := 2) rfl rfl (by decide) rfl (fun ls hl => ?_)
        refine lv_goto (tgt := 2) hx hb dX6_exchange_38 (by decide) ?_
        exact ih_2 (j_2 + 1) (x1_2 + 1) Rn9 (by rw [ex1_2, nI_1]) (by omega) (by omega) h2r10 h3r11 h6112 hl213 hR _ _ _ hP hD hS (lv_sub hl [2, 0] rfl)
  exact hL_2 290 0 0 R (by decide +kernel) (by decide) (by decide) h2r_0 h3r_0 h61_0 hl2_0 hR _ _ _ hP hD hS (lv_sub hl [1, 0] rfl)
