abbrev rm_X6_count : Room := { frames := 4, cells := 0, slots := 0, locals := 88 }
def f_X6_count (R : SR) (p1 : Int32) : Int32 × SR := sLet (sU R 6 0 0) (fun Rn2 : SR => (if p1 = 0 then (Rn2 0 (140 + p1).toNatClampNeg, Rn2) else (if p1 = 1 then (Rn2 0 (140 + p1).toNatClampNeg, Rn2) else (if p1 = 2 then (Rn2 0 (140 + p1).toNatClampNeg, Rn2) else (if p1 = 3 then (Rn2 0 (140 + p1).toNatClampNeg, Rn2) else (if p1 = 4 then (if 0 ≤ (Rn2 0 144) then (Rn2 0 144, Rn2) else ((-99), Rn2)) else (if p1 = 5 then (if 0 ≤ (Rn2 0 144) then (Rn2 0 145, Rn2) else ((-99), Rn2)) else (if p1 = 6 then (f_X6_scenes Rn2, Rn2) else (if p1 = 7 then (f_X6_soloed Rn2, Rn2) else (if p1 = 8 then (f_X6_heard Rn2, Rn2) else (if p1 = 9 then (Rn2 6 1, Rn2) else (if p1 = 10 then (Rn2 6 2, Rn2) else ((-1), Rn2)))))))))))))
set_option maxHeartbeats 4000000 in
set_option maxRecDepth 100000 in
theorem c_X6_count (l : Launch) (dC : Nat → ClassId) (dI : Nat → Nat → Nat) (cI cC cS : ClassId) (a : Nat → Nat) (R : SR) (sz : Nat) (p1 : Int32) (ohv : vp_in (R 6 1) 6) (hI : RA R) (hs : RS R) : Met l yX6_count wsX6_count rm_X6_count (PcG (dC, dI) (tyL cI cC cS) (cMd a cI R) sz [.ref (a 0), .int p1]) (va_Qi (fun (r : Int32) (u : SR) => (r, u) = f_X6_count R p1 ∧ (RA u) ∧ (RS u)) (fun u U => va_P (dC, dI) vwCl (cMd a cI u) U.heap ∧ va_D (va_A (cMd a cI R) sz) (cMd a cI u)) (va_A (cMd a cI R) sz)) 0 0 (va_A (cMd a cI R) sz) := by
  refine Met.ofW (cc := cX6_count) (maxL := 2) (ret := (some .int)) (by decide) rfl ?_
  intro p e s m args below meth c s₁ B hml hv
  obtain ⟨rfl, hsz, hP, hK, hD0, hN⟩ := hv
  have hx := B.exec
  have hb := B.bytes
  have hr := B.returns
  have hts := atoms_spec (ws := wsX6_count) B.pre
  have hown : s.vm.findClass RX6 = some m.cls := findClass_of_methodNamed B.named
  have hlocks := B.notSynchronized
  subst hsz
  have hD := hD0.self (sz := s.heap.size)
  have hA : ∀ q : Nat, s.heap.size ≤ q → (va_A (cMd a cI R) s.heap.size) q := fun q h => Or.inr h
  have hS : va_S (va_A (cMd a cI R) s.heap.size) s.heap s.heap [] := va_S.rf
  have hin6 : ∀ w ∈ wsX60, w ∈ wsX6_count := fun _ h => List.mem_cons_of_mem _ (List.mem_append_right _ h)
  have hl := lv_entry [.ref (a 0), .int p1] (n := 2) (Nat.le_of_ble_eq_true rfl)
  rw [lg_entry_eq]
  generalize (lg_sl [.ref (a 0), .int p1] ++ List.replicate (2 - (lg_sl [.ref (a 0), .int p1]).length) Slot.unset).toArray = ls at hl ⊢
  have hl : lv_has ls 2 [(0, .ref (a 0)), (1, .int p1)] := hl
  obtain ⟨R0, eR⟩ : ∃ z, z = f_X6_count R p1 := ⟨_, rfl⟩
  have hR := eR
  rw [f_X6_count] at hR
  refine lv_aload_n hx hb dX6_count_0 rfl (lv_at hl 0 rfl) ?_
  refine lv_iconst (v := 0) hx hb dX6_count_1 (by decide) ?_
  refine va_put (D := (dC, dI)) (ci := 6) (v := .int 0) (ty := .int) (C := RX6) (T := TX6) (N := 15) hx hb hts hin6 tyX6 tyX6_ok nmX6 hown hK hP hD hS 0 rfl rfl 0 (by decide) (hts (.fieldLink RX6 28 "FeedDeskModel" "thrown" "I") (List.mem_of_getElem? (i := 1) rfl)) (fun _ h9 => h9) rfl (by decide +kernel) rfl rfl (Nat.le_of_ble_eq_true rfl) dX6_count_2 (fun H1 locs hP hD hS => ?_)
  have hP : va_P (dC, dI) vwCl (cMd a cI (sU R 6 0 0)) H1 := hP
  have hD : va_D (va_A (cMd a cI R) s.heap.size) (cMd a cI (sU R 6 0 0)) := hD
  obtain ⟨Rn2, eRn2⟩ : ∃ z : SR, z = sU R 6 0 0 := ⟨_, rfl⟩
  rw [sLet_eq, ← eRn2] at hR
  rw [← eRn2] at hP hD
  have ohv3 : vp_in (Rn2 6 1) 6 := (by rw [eRn2]; exact ohv)
  have hI4 : RA Rn2 := (by rw [eRn2]; exact hI)
  have hs5 : RS Rn2 := (by rw [eRn2]; exact hs)
  refine lv_iload_n hx hb dX6_count_5 rfl (lv_at hl 1 rfl) ?_
  rcases Decidable.em (p1 = 0) with c6 | c6
  · rw [if_pos c6] at hR
    refine lv_tableIn (tgt := 64) hx hb dX6_count_6 (by rw [c6]; decide) (by rw [c6]; decide) (by rw [c6]; rfl) (by decide) ?_
    refine lv_aload_n hx hb dX6_count_64 rfl (lv_at hl 0 rfl) ?_
    refine va_get (D := (dC, dI)) (ci := 6) (v := .ref (a 1)) (C := RX6) (T := TX6) (N := 15) hx hb hts hin6 hown hK hP 0 rfl rfl 1 (by decide) (hts (.fieldLink RX6 7 "FeedDeskModel" "s" "[I") (List.mem_of_getElem? (i := 2) rfl)) (fun _ h9 => h9) rfl dX6_count_65 ?_
    refine lv_sipush (v := 140) hx hb dX6_count_68 (by decide) ?_
    refine lv_iload_n hx hb dX6_count_71 rfl (lv_at hl 1 rfl) ?_
    refine lv_iadd hx hb dX6_count_72 ?_
    refine va_iald (f := Rn2 0) hx hb hK hP 1 0 rfl rfl (by rw [c6]; exact vp_of_B (by decide +kernel)) dX6_count_73 ?_
    exact W.iret (v := Rn2 0 (140 + p1).toNatClampNeg) hx hb hr (fun t ht hWw => ⟨⟨Rn2 0 (140 + p1).toNatClampNeg, Rn2, rfl, ⟨hR.symm.trans eR, hI4, hs5⟩, by rw [ht]; exact hP, hD⟩, hS.F ht⟩) hS.2.2 dX6_count_74
  · rw [if_neg c6] at hR
    rcases Decidable.em (p1 = 1) with c7 | c7
    · rw [if_pos c7] at hR
      refine lv_tableIn (tgt := 64) hx hb dX6_count_6 (by rw [c7]; decide) (by rw [c7]; decide) (by rw [c7]; rfl) (by decide) ?_
      refine lv_aload_n hx hb dX6_count_64 rfl (lv_at hl 0 rfl) ?_
      refine va_get (D := (dC, dI)) (ci := 6) (v := .ref (a 1)) (C := RX6) (T := TX6) (N := 15) hx hb hts hin6 hown hK hP 0 rfl rfl 1 (by decide) (hts (.fieldLink RX6 7 "FeedDeskModel" "s" "[I") (List.mem_of_getElem? (i := 2) rfl)) (fun _ h9 => h9) rfl dX6_count_65 ?_
      refine lv_sipush (v := 140) hx hb dX6_count_68 (by decide) ?_
      refine lv_iload_n hx hb dX6_count_71 rfl (lv_at hl 1 rfl) ?_
      refine lv_iadd hx hb dX6_count_72 ?_
      refine va_iald (f := Rn2 0) hx hb hK hP 1 0 rfl rfl (by rw [c7]; exact vp_of_B (by decide +kernel)) dX6_count_73 ?_
      exact W.iret (v := Rn2 0 (140 + p1).toNatClampNeg) hx hb hr (fun t ht hWw => ⟨⟨Rn2 0 (140 + p1).toNatClampNeg, Rn2, rfl, ⟨hR.symm.trans eR, hI4, hs5⟩, by rw [ht]; exact hP, hD⟩, hS.F ht⟩) hS.2.2 dX6_count_74
    · rw [if_neg c7] at hR
      rcases Decidable.em (p1 = 2) with c8 | c8
      · rw [if_pos c8] at hR
        refine lv_tableIn (tgt := 64) hx hb dX6_count_6 (by rw [c8]; decide) (by rw [c8]; decide) (by rw [c8]; rfl) (by decide) ?_
        refine lv_aload_n hx hb dX6_count_64 rfl (lv_at hl 0 rfl) ?_
        refine va_get (D := (dC, dI)) (ci := 6) (v := .ref (a 1)) (C := RX6) (T := TX6) (N := 15) hx hb hts hin6 hown hK hP 0 rfl rfl 1 (by decide) (hts (.fieldLink RX6 7 "FeedDeskModel" "s" "[I") (List.mem_of_getElem? (i := 2) rfl)) (fun _ h9 => h9) rfl dX6_count_65 ?_
        refine lv_sipush (v := 140) hx hb dX6_count_68 (by decide) ?_
        refine lv_iload_n hx hb dX6_count_71 rfl (lv_at hl 1 rfl) ?_
        refine lv_iadd hx hb dX6_count_72 ?_
        refine va_iald (f := Rn2 0) hx hb hK hP 1 0 rfl rfl (by rw [c8]; exact vp_of_B (by decide +kernel)) dX6_count_73 ?_
        exact W.iret (v := Rn2 0 (140 + p1).toNatClampNeg) hx hb hr (fun t ht hWw => ⟨⟨Rn2 0 (140 + p1).toNatClampNeg, Rn2, rfl, ⟨hR.symm.trans eR, hI4, hs5⟩, by rw [ht]; exact hP, hD⟩, hS.F ht⟩) hS.2.2 dX6_count_74
      · rw [if_neg c8] at hR
        rcases Decidable.em (p1 = 3) with c9 | c9
        · rw [if_pos c9] at hR
          refine lv_tableIn (tgt := 64) hx hb dX6_count_6 (by rw [c9]; decide) (by rw [c9]; decide) (by rw [c9]; rfl) (by decide) ?_
          refine lv_aload_n hx hb dX6_count_64 rfl (lv_at hl 0 rfl) ?_
          refine va_get (D := (dC, dI)) (ci := 6) (v := .ref (a 1)) (C := RX6) (T := TX6) (N := 15) hx hb hts hin6 hown hK hP 0 rfl rfl 1 (by decide) (hts (.fieldLink RX6 7 "FeedDeskModel" "s" "[I") (List.mem_of_getElem? (i := 2) rfl)) (fun _ h9 => h9) rfl dX6_count_65 ?_
          refine lv_sipush (v := 140) hx hb dX6_count_68 (by decide) ?_
          refine lv_iload_n hx hb dX6_count_71 rfl (lv_at hl 1 rfl) ?_
          refine lv_iadd hx hb dX6_count_72 ?_
          refine va_iald (f := Rn2 0) hx hb hK hP 1 0 rfl rfl (by rw [c9]; exact vp_of_B (by decide +kernel)) dX6_count_73 ?_
          exact W.iret (v := Rn2 0 (140 + p1).toNatClampNeg) hx hb hr (fun t ht hWw => ⟨⟨Rn2 0 (140 + p1).toNatClampNeg, Rn2, rfl, ⟨hR.symm.trans eR, hI4, hs5⟩, by rw [ht]; exact hP, hD⟩, hS.F ht⟩) hS.2.2 dX6_count_74
        · rw [if_neg c9] at hR
          rcases Decidable.em (p1 = 4) with c10 | c10
          · rw [if_pos c10] at hR
            refine lv_tableIn (tgt := 75) hx hb dX6_count_6 (by rw [c10]; decide) (by rw [c10]; decide) (by rw [c10]; rfl) (by decide) ?_
            refine lv_aload_n hx hb dX6_count_75 rfl (lv_at hl 0 rfl) ?_
            refine va_get (D := (dC, dI)) (ci := 6) (v := .ref (a 1)) (C := RX6) (T := TX6) (N := 15) hx hb hts hin6 hown hK hP 0 rfl rfl 1 (by decide) (hts (.fieldLink RX6 7 "FeedDeskModel" "s" "[I") (List.mem_of_getElem? (i := 2) rfl)) (fun _ h9 => h9) rfl dX6_count_76 ?_
            refine lv_sipush (v := 144) hx hb dX6_count_79 (by decide) ?_
            refine va_iald (f := Rn2 0) hx hb hK hP 1 0 rfl rfl (vp_of_B (by decide +kernel : vp_okB (144) 289 = true)) dX6_count_82 ?_
            refine lv_eqi (y := Rn2 0 144) rfl ?_
            refine lv_if_ge (tgt := 91) hx hb dX6_count_83 (by decide) (fun c11 => ?_) (fun c11 => ?_)
            · rw [if_pos c11] at hR
              refine lv_aload_n hx hb dX6_count_91 rfl (lv_at hl 0 rfl) ?_
              refine va_get (D := (dC, dI)) (ci := 6) (v := .ref (a 1)) (C := RX6) (T := TX6) (N := 15) hx hb hts hin6 hown hK hP 0 rfl rfl 1 (by decide) (hts (.fieldLink RX6 7 "FeedDeskModel" "s" "[I") (List.mem_of_getElem? (i := 2) rfl)) (fun _ h9 => h9) rfl dX6_count_92 ?_
              refine lv_sipush (v := 144) hx hb dX6_count_95 (by decide) ?_
              refine va_iald (f := Rn2 0) hx hb hK hP 1 0 rfl rfl (vp_of_B (by decide +kernel : vp_okB (144) 289 = true)) dX6_count_98 ?_
              refine lv_eqi (y := Rn2 0 144) rfl ?_
              exact W.iret (v := Rn2 0 144) hx hb hr (fun t ht hWw => ⟨⟨Rn2 0 144, Rn2, rfl, ⟨hR.symm.trans eR, hI4, hs5⟩, by rw [ht]; exact hP, hD⟩, hS.F ht⟩) hS.2.2 dX6_count_99
            · rw [if_neg c11] at hR
              refine lv_bipush (v := (-99)) hx hb dX6_count_86 (by decide) ?_
              refine lv_goto (tgt := 99) hx hb dX6_count_88 (by decide) ?_
              exact W.iret (v := (-99)) hx hb hr (fun t ht hWw => ⟨⟨(-99), Rn2, rfl, ⟨hR.symm.trans eR, hI4, hs5⟩, by rw [ht]; exact hP, hD⟩, hS.F ht⟩) hS.2.2 dX6_count_99
          · rw [if_neg c10] at hR
            rcases Decidable.em (p1 = 5) with c12 | c12
            · rw [if_pos c12] at hR
              refine lv_tableIn (tgt := 100) hx hb dX6_count_6 (by rw [c12]; decide) (by rw [c12]; decide) (by rw [c12]; rfl) (by decide) ?_
              refine lv_aload_n hx hb dX6_count_100 rfl (lv_at hl 0 rfl) ?_
              refine va_get (D := (dC, dI)) (ci := 6) (v := .ref (a 1)) (C := RX6) (T := TX6) (N := 15) hx hb hts hin6 hown hK hP 0 rfl rfl 1 (by decide) (hts (.fieldLink RX6 7 "FeedDeskModel" "s" "[I") (List.mem_of_getElem? (i := 2) rfl)) (fun _ h9 => h9) rfl dX6_count_101 ?_
              refine lv_sipush (v := 144) hx hb dX6_count_104 (by decide) ?_
              refine va_iald (f := Rn2 0) hx hb hK hP 1 0 rfl rfl (vp_of_B (by decide +kernel : vp_okB (144) 289 = true)) dX6_count_107 ?_
              refine lv_eqi (y := Rn2 0 144) rfl ?_
              refine lv_if_ge (tgt := 116) hx hb dX6_count_108 (by decide) (fun c13 => ?_) (fun c13 => ?_)
              · rw [if_pos c13] at hR
                refine lv_aload_n hx hb dX6_count_116 rfl (lv_at hl 0 rfl) ?_
                refine va_get (D := (dC, dI)) (ci := 6) (v := .ref (a 1)) (C := RX6) (T := TX6) (N := 15) hx hb hts hin6 hown hK hP 0 rfl rfl 1 (by decide) (hts (.fieldLink RX6 7 "FeedDeskModel" "s" "[I") (List.mem_of_getElem? (i := 2) rfl)) (fun _ h9 => h9) rfl dX6_count_117 ?_
                refine lv_sipush (v := 145) hx hb dX6_count_120 (by decide) ?_
                refine va_iald (f := Rn2 0) hx hb hK hP 1 0 rfl rfl (vp_of_B (by decide +kernel : vp_okB (145) 289 = true)) dX6_count_123 ?_
                refine lv_eqi (y := Rn2 0 145) rfl ?_
                exact W.iret (v := Rn2 0 145) hx hb hr (fun t ht hWw => ⟨⟨Rn2 0 145, Rn2, rfl, ⟨hR.symm.trans eR, hI4, hs5⟩, by rw [ht]; exact hP, hD⟩, hS.F ht⟩) hS.2.2 dX6_count_124
              · rw [if_neg c13] at hR
                refine lv_bipush (v := (-99)) hx hb dX6_count_111 (by decide) ?_
                refine lv_goto (tgt := 124) hx hb dX6_count_113 (by decide) ?_
                exact W.iret (v := (-99)) hx hb hr (fun t ht hWw => ⟨⟨(-99), Rn2, rfl, ⟨hR.symm.trans eR, hI4, hs5⟩, by rw [ht]; exact hP, hD⟩, hS.F ht⟩) hS.2.2 dX6_count_124
            · rw [if_neg c12] at hR
              rcases Decidable.em (p1 = 6) with c14 | c14
              · rw [if_pos c14] at hR
                refine lv_tableIn (tgt := 125) hx hb dX6_count_6 (by rw [c14]; decide) (by rw [c14]; decide) (by rw [c14]; rfl) (by decide) ?_
                refine lv_aload_n hx hb dX6_count_125 rfl (lv_at hl 0 rfl) ?_
                have hPc : va_P (dC, dI) vwCl (cMd a cI Rn2) H1 := hP.sub [0, 1, 2, 3, 4, 5, 6] rfl
                have hDc : va_D (va_A (cMd a cI R) s.heap.size) (cMd a cI Rn2) := hD.sub [0, 1, 2, 3, 4, 5, 6] (by decide) rfl
                have hFc : ∀ q : Nat, va_A [] H1.size q → (va_A (cMd a cI R) s.heap.size) q := roF hS hA
                refine va_calli (va_runV (As := []) (rest := []) ⟨hx, hb, hml, hown, hts⟩ (c_X6_scenes l dC dI cI cC cS a Rn2 H1.size) (cwV 0 hts gX6_count_X6_scenes rfl rfl rfl (by decide +kernel) ⟨Nat.le_of_ble_eq_true rfl, Nat.le_of_ble_eq_true rfl⟩) (pV (q0 := 0) hK hPc hDc hN rfl rfl) rfl rfl hl.1 rfl (lv_room (Nat.le_of_ble_eq_true rfl)) dX6_count_126 ⟨Nat.le_of_ble_eq_true rfl, Nat.le_of_ble_eq_true rfl⟩) hS (fun q _ h => hFc q h) hFc (fun r_15 u_15 t_15 H16 locs ht hvm hw hB hz1 hk1 hS => ?_)
                subst hw
                have hP := ro_keep hP hk1
                exact W.iret (v := f_X6_scenes Rn2) hx hb hr (fun t ht hWw => ⟨⟨f_X6_scenes Rn2, Rn2, rfl, ⟨hR.symm.trans eR, hI4, hs5⟩, by rw [ht]; exact hP, hD⟩, hS.F ht⟩) hS.2.2 dX6_count_129
              · rw [if_neg c14] at hR
                rcases Decidable.em (p1 = 7) with c17 | c17
                · rw [if_pos c17] at hR
                  refine lv_tableIn (tgt := 130) hx hb dX6_count_6 (by rw [c17]; decide) (by rw [c17]; decide) (by rw [c17]; rfl) (by decide) ?_
                  refine lv_aload_n hx hb dX6_count_130 rfl (lv_at hl 0 rfl) ?_
                  have hPc : va_P (dC, dI) vwCl (cMd a cI Rn2) H1 := hP.sub [0, 1, 2, 3, 4, 5, 6] rfl
                  have hDc : va_D (va_A (cMd a cI R) s.heap.size) (cMd a cI Rn2) := hD.sub [0, 1, 2, 3, 4, 5, 6] (by decide) rfl
                  have hFc : ∀ q : Nat, va_A [] H1.size q → (va_A (cMd a cI R) s.heap.size) q := roF hS hA
                  refine va_calli (va_runV (As := []) (rest := []) ⟨hx, hb, hml, hown, hts⟩ (c_X6_soloed l dC dI cI cC cS a Rn2 H1.size) (cwV 0 hts gX6_count_X6_soloed rfl rfl rfl (by decide +kernel) ⟨Nat.le_of_ble_eq_true rfl, Nat.le_of_ble_eq_true rfl⟩) (pV (q0 := 0) hK hPc hDc hN rfl rfl) rfl rfl hl.1 rfl (lv_room (Nat.le_of_ble_eq_true rfl)) dX6_count_131 ⟨Nat.le_of_ble_eq_true rfl, Nat.le_of_ble_eq_true rfl⟩) hS (fun q _ h => hFc q h) hFc (fun r_18 u_18 t_18 H19 locs ht hvm hw hB hz1 hk1 hS => ?_)
                  subst hw
                  have hP := ro_keep hP hk1
                  exact W.iret (v := f_X6_soloed Rn2) hx hb hr (fun t ht hWw => ⟨⟨f_X6_soloed Rn2, Rn2, rfl, ⟨hR.symm.trans eR, hI4, hs5⟩, by rw [ht]; exact hP, hD⟩, hS.F ht⟩) hS.2.2 dX6_count_134
                · rw [if_neg c17] at hR
                  rcases Decidable.em (p1 = 8) with c20 | c20
                  · rw [if_pos c20] at hR
                    refine lv_tableIn (tgt := 135) hx hb dX6_count_6 (by rw [c20]; decide) (by rw [c20]; decide) (by rw [c20]; rfl) (by decide) ?_
                    refine lv_aload_n hx hb dX6_count_135 rfl (lv_at hl 0 rfl) ?_
                    have hPc : va_P (dC, dI) vwCl (cMd a cI Rn2) H1 := hP.sub [0, 1, 2, 3, 4, 5, 6] rfl
                    have hDc : va_D (va_A (cMd a cI R) s.heap.size) (cMd a cI Rn2) := hD.sub [0, 1, 2, 3, 4, 5, 6] (by decide) rfl
                    have hFc : ∀ q : Nat, va_A [] H1.size q → (va_A (cMd a cI R) s.heap.size) q := roF hS hA
                    refine va_calli (va_runV (As := []) (rest := []) ⟨hx, hb, hml, hown, hts⟩ (c_X6_heard l dC dI cI cC cS a Rn2 H1.size) (cwV 0 hts gX6_count_X6_heard rfl rfl rfl (by decide +kernel) ⟨Nat.le_of_ble_eq_true rfl, Nat.le_of_ble_eq_true rfl⟩) (pV (q0 := 0) hK hPc hDc hN rfl rfl) rfl rfl hl.1 rfl (lv_room (Nat.le_of_ble_eq_true rfl)) dX6_count_136 ⟨Nat.le_of_ble_eq_true rfl, Nat.le_of_ble_eq_true rfl⟩) hS (fun q _ h => hFc q h) hFc (fun r_21 u_21 t_21 H22 locs ht hvm hw hB hz1 hk1 hS => ?_)
                    subst hw
                    have hP := ro_keep hP hk1
                    exact W.iret (v := f_X6_heard Rn2) hx hb hr (fun t ht hWw => ⟨⟨f_X6_heard Rn2, Rn2, rfl, ⟨hR.symm.trans eR, hI4, hs5⟩, by rw [ht]; exact hP, hD⟩, hS.F ht⟩) hS.2.2 dX6_count_139
                  · rw [if_neg c20] at hR
                    rcases Decidable.em (p1 = 9) with c23 | c23
                    · rw [if_pos c23] at hR
                      refine lv_tableIn (tgt := 140) hx hb dX6_count_6 (by rw [c23]; decide) (by rw [c23]; decide) (by rw [c23]; rfl) (by decide) ?_
                      refine lv_aload_n hx hb dX6_count_140 rfl (lv_at hl 0 rfl) ?_
                      refine va_get (D := (dC, dI)) (ci := 6) (v := .int (Rn2 6 1)) (C := RX6) (T := TX6) (N := 15) hx hb hts hin6 hown hK hP 0 rfl rfl 4 (by decide) (hts (.fieldLink RX6 32 "FeedDeskModel" "savedMany" "I") (List.mem_of_getElem? (i := 3) rfl)) (fun _ h9 => h9) rfl dX6_count_141 ?_
                      exact W.iret (v := Rn2 6 1) hx hb hr (fun t ht hWw => ⟨⟨Rn2 6 1, Rn2, rfl, ⟨hR.symm.trans eR, hI4, hs5⟩, by rw [ht]; exact hP, hD⟩, hS.F ht⟩) hS.2.2 dX6_count_144
                    · rw [if_neg c23] at hR
                      rcases Decidable.em (p1 = 10) with c24 | c24
                      · rw [if_pos c24] at hR
                        refine lv_tableIn (tgt := 145) hx hb dX6_count_6 (by rw [c24]; decide) (by rw [c24]; decide) (by rw [c24]; rfl) (by decide) ?_
                        refine lv_aload_n hx hb dX6_count_145 rfl (lv_at hl 0 rfl) ?_
                        refine va_get (D := (dC, dI)) (ci := 6) (v := .int (Rn2 6 2)) (C := RX6) (T := TX6) (N := 15) hx hb hts hin6 hown hK hP 0 rfl rfl 6 (by decide) (hts (.fieldLink RX6 122 "FeedDeskModel" "length" "I") (List.mem_of_getElem? (i := 4) rfl)) (fun _ h9 => h9) rfl dX6_count_146 ?_
                        exact W.iret (v := Rn2 6 2) hx hb hr (fun t ht hWw => ⟨⟨Rn2 6 2, Rn2, rfl, ⟨hR.symm.trans eR, hI4, hs5⟩, by rw [ht]; exact hP, hD⟩, hS.F ht⟩) hS.2.2 dX6_count_149
                      · rw [if_neg c24] at hR
                        have tz0 : ¬ p1.toInt = 0 := fun h => c6 (Int32.toInt_inj.mp (h.trans (by decide)))
                        have tz1 : ¬ p1.toInt = 1 := fun h => c7 (Int32.toInt_inj.mp (h.trans (by decide)))
                        have tz2 : ¬ p1.toInt = 2 := fun h => c8 (Int32.toInt_inj.mp (h.trans (by decide)))
                        have tz3 : ¬ p1.toInt = 3 := fun h => c9 (Int32.toInt_inj.mp (h.trans (by decide)))
                        have tz4 : ¬ p1.toInt = 4 := fun h => c10 (Int32.toInt_inj.mp (h.trans (by decide)))
                        have tz5 : ¬ p1.toInt = 5 := fun h => c12 (Int32.toInt_inj.mp (h.trans (by decide)))
                        have tz6 : ¬ p1.toInt = 6 := fun h => c14 (Int32.toInt_inj.mp (h.trans (by decide)))
                        have tz7 : ¬ p1.toInt = 7 := fun h => c17 (Int32.toInt_inj.mp (h.trans (by decide)))
                        have tz8 : ¬ p1.toInt = 8 := fun h => c20 (Int32.toInt_inj.mp (h.trans (by decide)))
                        have tz9 : ¬ p1.toInt = 9 := fun h => c23 (Int32.toInt_inj.mp (h.trans (by decide)))
                        have tz10 : ¬ p1.toInt = 10 := fun h => c24 (Int32.toInt_inj.mp (h.trans (by decide)))
                        refine lv_tableOut (tgt := 150) hx hb dX6_count_6 (by omega) (by decide) ?_
                        refine lv_iconst (v := (-1)) hx hb dX6_count_150 (by decide) ?_
                        exact W.iret (v := (-1)) hx hb hr (fun t ht hWw => ⟨⟨(-1), Rn2, rfl, ⟨hR.symm.trans eR, hI4, hs5⟩, by rw [ht]; exact hP, hD⟩, hS.F ht⟩) hS.2.2 dX6_count_151
abbrev rm_X6_channel : Room := { frames := 3, cells := 0, slots := 0, locals := 66 }
def f_X6_channel (R : SR) (p1 : Int32) (p2 : Int32) : Int32 × SR := sLet (sU R 6 0 0) (fun Rn2 : SR => (if (f_X6_isChannel p1) = 0 then ((-1), Rn2) else (if (f_X6_in p2 0 8) = 0 then ((-1), Rn2) else (if p2 = 5 then (f_X6_level Rn2 p1, Rn2) else (if p2 = 6 then (Rn2 0 (60 + p1).toNatClampNeg, Rn2) else (if p2 = 7 then (f_X6_touched Rn2 (Rn2 0 179) p1, Rn2) else (if p2 = 8 then (f_X6_backInto Rn2 p1, Rn2) else (f_X6_of Rn2 p1 p2, Rn2))))))))
set_option maxHeartbeats 4000000 in
set_option maxRecDepth 100000 in
theorem c_X6_channel (l : Launch) (dC : Nat → ClassId) (dI : Nat → Nat → Nat) (cI cC cS : ClassId) (a : Nat → Nat) (R : SR) (sz : Nat) (p1 : Int32) (p2 : Int32) (ohv : vp_in (R 6 1) 6) (hI : RA R) (hs : RS R) : Met l yX6_channel wsX6_channel rm_X6_channel (PcG (dC, dI) (tyL cI cC cS) (cMd a cI R) sz [.ref (a 0), .int p1, .int p2]) (va_Qi (fun (r : Int32) (u : SR) => (r, u) = f_X6_channel R p1 p2 ∧ (RA u) ∧ (RS u)) (fun u U => va_P (dC, dI) vwCl (cMd a cI u) U.heap ∧ va_D (va_A (cMd a cI R) sz) (cMd a cI u)) (va_A (cMd a cI R) sz)) 0 0 (va_A (cMd a cI R) sz) := by
  refine Met.ofW (cc := cX6_channel) (maxL := 3) (ret := (some .int)) (by decide) rfl ?_
  intro p e s m args below meth c s₁ B hml hv
  obtain ⟨rfl, hsz, hP, hK, hD0, hN⟩ := hv
  have hx := B.exec
  have hb := B.bytes
  have hr := B.returns
  have hts := atoms_spec (ws := wsX6_channel) B.pre
  have hown : s.vm.findClass RX6 = some m.cls := findClass_of_methodNamed B.named
  have hlocks := B.notSynchronized
  subst hsz
  have hD := hD0.self (sz := s.heap.size)
  have hA : ∀ q : Nat, s.heap.size ≤ q → (va_A (cMd a cI R) s.heap.size) q := fun q h => Or.inr h
  have hS : va_S (va_A (cMd a cI R) s.heap.size) s.heap s.heap [] := va_S.rf
  have hin6 : ∀ w ∈ wsX60, w ∈ wsX6_channel := fun _ h => List.mem_cons_of_mem _ (List.mem_append_right _ h)
  have hl := lv_entry [.ref (a 0), .int p1, .int p2] (n := 3) (Nat.le_of_ble_eq_true rfl)
  rw [lg_entry_eq]
  generalize (lg_sl [.ref (a 0), .int p1, .int p2] ++ List.replicate (3 - (lg_sl [.ref (a 0), .int p1, .int p2]).length) Slot.unset).toArray = ls at hl ⊢
  have hl : lv_has ls 3 [(0, .ref (a 0)), (1, .int p1), (2, .int p2)] := hl
  obtain ⟨R0, eR⟩ : ∃ z, z = f_X6_channel R p1 p2 := ⟨_, rfl⟩
  have hR := eR
  rw [f_X6_channel] at hR
  refine lv_aload_n hx hb dX6_channel_0 rfl (lv_at hl 0 rfl) ?_
  refine lv_iconst (v := 0) hx hb dX6_channel_1 (by decide) ?_
  refine va_put (D := (dC, dI)) (ci := 6) (v := .int 0) (ty := .int) (C := RX6) (T := TX6) (N := 15) hx hb hts hin6 tyX6 tyX6_ok nmX6 hown hK hP hD hS 0 rfl rfl 0 (by decide) (hts (.fieldLink RX6 28 "FeedDeskModel" "thrown" "I") (List.mem_of_getElem? (i := 1) rfl)) (fun _ h9 => h9) rfl (by decide +kernel) rfl rfl (Nat.le_of_ble_eq_true rfl) dX6_channel_2 (fun H1 locs hP hD hS => ?_)
  have hP : va_P (dC, dI) vwCl (cMd a cI (sU R 6 0 0)) H1 := hP
  have hD : va_D (va_A (cMd a cI R) s.heap.size) (cMd a cI (sU R 6 0 0)) := hD
  obtain ⟨Rn2, eRn2⟩ : ∃ z : SR, z = sU R 6 0 0 := ⟨_, rfl⟩
  rw [sLet_eq, ← eRn2] at hR
  rw [← eRn2] at hP hD
  have ohv3 : vp_in (Rn2 6 1) 6 := (by rw [eRn2]; exact ohv)
  have hI4 : RA Rn2 := (by rw [eRn2]; exact hI)
  have hs5 : RS Rn2 := (by rw [eRn2]; exact hs)
  refine lv_iload_n hx hb dX6_channel_5 rfl (lv_at hl 1 rfl) ?_
  have hFc : ∀ q : Nat, va_A [] H1.size q → (va_A (cMd a cI R) s.heap.size) q := roF hS hA
  refine va_calli (va_runS (As := [.int p1]) (rest := []) ⟨hx, hb, hml, hown, hts⟩ (c_X6_isChannel l dC dI cI cC cS H1.size p1) (va_cwS 1 hts gX6_channel_X6_isChannel rfl rfl rfl (by decide +kernel) ⟨Nat.le_of_ble_eq_true rfl, Nat.le_of_ble_eq_true rfl⟩) (pS hK (va_P_nil) (va_D_nil) hN) rfl rfl hl.1 rfl (lv_room (Nat.le_of_ble_eq_true rfl)) dX6_channel_6 ⟨Nat.le_of_ble_eq_true rfl, Nat.le_of_ble_eq_true rfl⟩) hS (fun q _ h => hFc q h) hFc (fun r_6 u_6 t_6 H7 locs ht hvm hw hB hz1 hk1 hS => ?_)
  obtain ⟨hw, hre8⟩ := hw
  subst hw
  have hP := ro_keep hP hk1
  refine lv_if_eq (tgt := 22) hx hb dX6_channel_9 (by decide) (fun c9 => ?_) (fun c9 => ?_)
  · rw [if_pos c9] at hR
    refine lv_iconst (v := (-1)) hx hb dX6_channel_22 (by decide) ?_
    exact W.iret (v := (-1)) hx hb hr (fun t ht hWw => ⟨⟨(-1), Rn2, rfl, ⟨hR.symm.trans eR, hI4, hs5⟩, by rw [ht]; exact hP, hD⟩, hS.F ht⟩) hS.2.2 dX6_channel_23
  · rw [if_neg c9] at hR
    obtain ⟨ip1, hip1, ep1⟩ := vp_in_of (ch_vp c9) (by decide)
    refine lv_iload_n hx hb dX6_channel_12 rfl (lv_at hl 2 rfl) ?_
    refine lv_iconst (v := 0) hx hb dX6_channel_13 (by decide) ?_
    refine lv_bipush (v := 8) hx hb dX6_channel_14 (by decide) ?_
    have hFc : ∀ q : Nat, va_A [] H7.size q → (va_A (cMd a cI R) s.heap.size) q := roF hS hA
    refine va_calli (va_runS (As := [.int p2, .int 0, .int 8]) (rest := []) ⟨hx, hb, hml, hown, hts⟩ (c_X6_in l dC dI cI cC cS H7.size p2 0 8) (va_cwS 3 hts gX6_channel_X6_in rfl rfl rfl (by decide +kernel) ⟨Nat.le_of_ble_eq_true rfl, Nat.le_of_ble_eq_true rfl⟩) (pS hK (va_P_nil) (va_D_nil) hN) rfl rfl hl.1 rfl (lv_room (Nat.le_of_ble_eq_true rfl)) dX6_channel_16 ⟨Nat.le_of_ble_eq_true rfl, Nat.le_of_ble_eq_true rfl⟩) hS (fun q _ h => hFc q h) hFc (fun r_10 u_10 t_10 H11 locs ht hvm hw hB hz1 hk1 hS => ?_)
    obtain ⟨hw, hre12⟩ := hw
    subst hw
    have hP := ro_keep hP hk1
    refine lv_if_ne (tgt := 24) hx hb dX6_channel_19 (by decide) (fun c13 => ?_) (fun c13 => ?_)
    · rw [if_neg c13] at hR
      refine lv_iload_n hx hb dX6_channel_24 rfl (lv_at hl 2 rfl) ?_
      rcases Decidable.em (p2 = 5) with c14 | c14
      · rw [if_pos c14] at hR
        refine lv_tableIn (tgt := 56) hx hb dX6_channel_25 (by rw [c14]; decide) (by rw [c14]; decide) (by rw [c14]; rfl) (by decide) ?_
        refine lv_aload_n hx hb dX6_channel_56 rfl (lv_at hl 0 rfl) ?_
        refine lv_iload_n hx hb dX6_channel_57 rfl (lv_at hl 1 rfl) ?_
        have hPc : va_P (dC, dI) vwCl (cMd a cI Rn2) H11 := hP.sub [0, 1, 2, 3, 4, 5, 6] rfl
        have hDc : va_D (va_A (cMd a cI R) s.heap.size) (cMd a cI Rn2) := hD.sub [0, 1, 2, 3, 4, 5, 6] (by decide) rfl
        have hFc : ∀ q : Nat, va_A [] H11.size q → (va_A (cMd a cI R) s.heap.size) q := roF hS hA
        refine va_calli (va_runV (As := [.int p1]) (rest := []) ⟨hx, hb, hml, hown, hts⟩ (c_X6_level l dC dI cI cC cS a Rn2 H11.size p1 (ch_vp c9)) (cwV 1 hts gX6_channel_X6_level rfl rfl rfl (by decide +kernel) ⟨Nat.le_of_ble_eq_true rfl, Nat.le_of_ble_eq_true rfl⟩) (pV (q0 := 0) hK hPc hDc hN rfl rfl) rfl rfl hl.1 rfl (lv_room (Nat.le_of_ble_eq_true rfl)) dX6_channel_58 ⟨Nat.le_of_ble_eq_true rfl, Nat.le_of_ble_eq_true rfl⟩) hS (fun q _ h => hFc q h) hFc (fun r_15 u_15 t_15 H16 locs ht hvm hw hB hz1 hk1 hS => ?_)
        subst hw
        have hP := ro_keep hP hk1
        exact W.iret (v := f_X6_level Rn2 p1) hx hb hr (fun t ht hWw => ⟨⟨f_X6_level Rn2 p1, Rn2, rfl, ⟨hR.symm.trans eR, hI4, hs5⟩, by rw [ht]; exact hP, hD⟩, hS.F ht⟩) hS.2.2 dX6_channel_61
      · rw [if_neg c14] at hR
        rcases Decidable.em (p2 = 6) with c17 | c17
        · rw [if_pos c17] at hR
          refine lv_tableIn (tgt := 62) hx hb dX6_channel_25 (by rw [c17]; decide) (by rw [c17]; decide) (by rw [c17]; rfl) (by decide) ?_
          refine lv_aload_n hx hb dX6_channel_62 rfl (lv_at hl 0 rfl) ?_
          refine va_get (D := (dC, dI)) (ci := 6) (v := .ref (a 1)) (C := RX6) (T := TX6) (N := 15) hx hb hts hin6 hown hK hP 0 rfl rfl 1 (by decide) (hts (.fieldLink RX6 7 "FeedDeskModel" "s" "[I") (List.mem_of_getElem? (i := 2) rfl)) (fun _ h9 => h9) rfl dX6_channel_63 ?_
          refine lv_bipush (v := 60) hx hb dX6_channel_66 (by decide) ?_
          refine lv_iload_n hx hb dX6_channel_68 rfl (lv_at hl 1 rfl) ?_
          refine lv_iadd hx hb dX6_channel_69 ?_
          refine va_iald (f := Rn2 0) hx hb hK hP 1 0 rfl rfl (by rw [ep1]; exact vp_of_B (ix_27 ip1 hip1)) dX6_channel_70 ?_
          exact W.iret (v := Rn2 0 (60 + p1).toNatClampNeg) hx hb hr (fun t ht hWw => ⟨⟨Rn2 0 (60 + p1).toNatClampNeg, Rn2, rfl, ⟨hR.symm.trans eR, hI4, hs5⟩, by rw [ht]; exact hP, hD⟩, hS.F ht⟩) hS.2.2 dX6_channel_71
        · rw [if_neg c17] at hR
          rcases Decidable.em (p2 = 7) with c18 | c18
          · rw [if_pos c18] at hR
            refine lv_tableIn (tgt := 72) hx hb dX6_channel_25 (by rw [c18]; decide) (by rw [c18]; decide) (by rw [c18]; rfl) (by decide) ?_
            refine lv_aload_n hx hb dX6_channel_72 rfl (lv_at hl 0 rfl) ?_
            refine lv_aload_n hx hb dX6_channel_73 rfl (lv_at hl 0 rfl) ?_
            refine va_get (D := (dC, dI)) (ci := 6) (v := .ref (a 1)) (C := RX6) (T := TX6) (N := 15) hx hb hts hin6 hown hK hP 0 rfl rfl 1 (by decide) (hts (.fieldLink RX6 7 "FeedDeskModel" "s" "[I") (List.mem_of_getElem? (i := 2) rfl)) (fun _ h9 => h9) rfl dX6_channel_74 ?_
            refine lv_sipush (v := 179) hx hb dX6_channel_77 (by decide) ?_
            refine va_iald (f := Rn2 0) hx hb hK hP 1 0 rfl rfl (vp_of_B (by decide +kernel : vp_okB (179) 289 = true)) dX6_channel_80 ?_
            refine lv_eqi (y := Rn2 0 179) rfl ?_
            refine lv_iload_n hx hb dX6_channel_81 rfl (lv_at hl 1 rfl) ?_
            have hPc : va_P (dC, dI) vwCl (cMd a cI Rn2) H11 := hP.sub [0, 1, 2, 3, 4, 5, 6] rfl
            have hDc : va_D (va_A (cMd a cI R) s.heap.size) (cMd a cI Rn2) := hD.sub [0, 1, 2, 3, 4, 5, 6] (by decide) rfl
            have hFc : ∀ q : Nat, va_A [] H11.size q → (va_A (cMd a cI R) s.heap.size) q := roF hS hA
            refine va_calli (va_runV (As := [.int (Rn2 0 179), .int p1]) (rest := []) ⟨hx, hb, hml, hown, hts⟩ (c_X6_touched l dC dI cI cC cS a Rn2 H11.size (Rn2 0 179) p1) (cwV 2 hts gX6_channel_X6_touched rfl rfl rfl (by decide +kernel) ⟨Nat.le_of_ble_eq_true rfl, Nat.le_of_ble_eq_true rfl⟩) (pV (q0 := 0) hK hPc hDc hN rfl rfl) rfl rfl hl.1 rfl (lv_room (Nat.le_of_ble_eq_true rfl)) dX6_channel_82 ⟨Nat.le_of_ble_eq_true rfl, Nat.le_of_ble_eq_true rfl⟩) hS (fun q _ h => hFc q h) hFc (fun r_19 u_19 t_19 H20 locs ht hvm hw hB hz1 hk1 hS => ?_)
            subst hw
            have hP := ro_keep hP hk1
            exact W.iret (v := f_X6_touched Rn2 (Rn2 0 179) p1) hx hb hr (fun t ht hWw => ⟨⟨f_X6_touched Rn2 (Rn2 0 179) p1, Rn2, rfl, ⟨hR.symm.trans eR, hI4, hs5⟩, by rw [ht]; exact hP, hD⟩, hS.F ht⟩) hS.2.2 dX6_channel_85
          · rw [if_neg c18] at hR
            rcases Decidable.em (p2 = 8) with c21 | c21
            · rw [if_pos c21] at hR
              refine lv_tableIn (tgt := 86) hx hb dX6_channel_25 (by rw [c21]; decide) (by rw [c21]; decide) (by rw [c21]; rfl) (by decide) ?_
              refine lv_aload_n hx hb dX6_channel_86 rfl (lv_at hl 0 rfl) ?_
              refine lv_iload_n hx hb dX6_channel_87 rfl (lv_at hl 1 rfl) ?_
              have hPc : va_P (dC, dI) vwCl (cMd a cI Rn2) H11 := hP.sub [0, 1, 2, 3, 4, 5, 6] rfl
              have hDc : va_D (va_A (cMd a cI R) s.heap.size) (cMd a cI Rn2) := hD.sub [0, 1, 2, 3, 4, 5, 6] (by decide) rfl
              have hFc : ∀ q : Nat, va_A [] H11.size q → (va_A (cMd a cI R) s.heap.size) q := roF hS hA
              refine va_calli (va_runV (As := [.int p1]) (rest := []) ⟨hx, hb, hml, hown, hts⟩ (c_X6_backInto l dC dI cI cC cS a Rn2 H11.size p1) (cwV 1 hts gX6_channel_X6_backInto rfl rfl rfl (by decide +kernel) ⟨Nat.le_of_ble_eq_true rfl, Nat.le_of_ble_eq_true rfl⟩) (pV (q0 := 0) hK hPc hDc hN rfl rfl) rfl rfl hl.1 rfl (lv_room (Nat.le_of_ble_eq_true rfl)) dX6_channel_88 ⟨Nat.le_of_ble_eq_true rfl, Nat.le_of_ble_eq_true rfl⟩) hS (fun q _ h => hFc q h) hFc (fun r_22 u_22 t_22 H23 locs ht hvm hw hB hz1 hk1 hS => ?_)
              obtain ⟨hw, hre24⟩ := hw
              subst hw
              have hP := ro_keep hP hk1
              exact W.iret (v := f_X6_backInto Rn2 p1) hx hb hr (fun t ht hWw => ⟨⟨f_X6_backInto Rn2 p1, Rn2, rfl, ⟨hR.symm.trans eR, hI4, hs5⟩, by rw [ht]; exact hP, hD⟩, hS.F ht⟩) hS.2.2 dX6_channel_91
            · rw [if_neg c21] at hR
              have tz0 : ¬ p2.toInt = 5 := fun h => c14 (Int32.toInt_inj.mp (h.trans (by decide)))
              have tz1 : ¬ p2.toInt = 6 := fun h => c17 (Int32.toInt_inj.mp (h.trans (by decide)))
              have tz2 : ¬ p2.toInt = 7 := fun h => c18 (Int32.toInt_inj.mp (h.trans (by decide)))
              have tz3 : ¬ p2.toInt = 8 := fun h => c21 (Int32.toInt_inj.mp (h.trans (by decide)))
              refine lv_tableOut (tgt := 92) hx hb dX6_channel_25 (by omega) (by decide) ?_
              refine lv_aload_n hx hb dX6_channel_92 rfl (lv_at hl 0 rfl) ?_
              refine lv_iload_n hx hb dX6_channel_93 rfl (lv_at hl 1 rfl) ?_
              refine lv_iload_n hx hb dX6_channel_94 rfl (lv_at hl 2 rfl) ?_
              have hPc : va_P (dC, dI) vwCl (cMd a cI Rn2) H11 := hP.sub [0, 1, 2, 3, 4, 5, 6] rfl
              have hDc : va_D (va_A (cMd a cI R) s.heap.size) (cMd a cI Rn2) := hD.sub [0, 1, 2, 3, 4, 5, 6] (by decide) rfl
              have hFc : ∀ q : Nat, va_A [] H11.size q → (va_A (cMd a cI R) s.heap.size) q := roF hS hA
              refine va_calli (va_runV (As := [.int p1, .int p2]) (rest := []) ⟨hx, hb, hml, hown, hts⟩ (c_X6_of l dC dI cI cC cS a Rn2 H11.size p1 p2 (ch_vp c9) (part5 (in_vp (n := 8) c13 (by decide)) c14 c17 c18 c21)) (cwV 2 hts gX6_channel_X6_of rfl rfl rfl (by decide +kernel) ⟨Nat.le_of_ble_eq_true rfl, Nat.le_of_ble_eq_true rfl⟩) (pV (q0 := 0) hK hPc hDc hN rfl rfl) rfl rfl hl.1 rfl (lv_room (Nat.le_of_ble_eq_true rfl)) dX6_channel_95 ⟨Nat.le_of_ble_eq_true rfl, Nat.le_of_ble_eq_true rfl⟩) hS (fun q _ h => hFc q h) hFc (fun r_25 u_25 t_25 H26 locs ht hvm hw hB hz1 hk1 hS => ?_)
              subst hw
              have hP := ro_keep hP hk1
              exact W.iret (v := f_X6_of Rn2 p1 p2) hx hb hr (fun t ht hWw => ⟨⟨f_X6_of Rn2 p1 p2, Rn2, rfl, ⟨hR.symm.trans eR, hI4, hs5⟩, by rw [ht]; exact hP, hD⟩, hS.F ht⟩) hS.2.2 dX6_channel_98
    · rw [if_pos c13] at hR
      refine lv_iconst (v := (-1)) hx hb dX6_channel_22 (by decide) ?_
      exact W.iret (v := (-1)) hx hb hr (fun t ht hWw => ⟨⟨(-1), Rn2, rfl, ⟨hR.symm.trans eR, hI4, hs5⟩, by rw [ht]; exact hP, hD⟩, hS.F ht⟩) hS.2.2 dX6_channel_23
abbrev rm_X6_group : Room := { frames := 2, cells := 0, slots := 0, locals := 45 }
def f_X6_group (R : SR) (p1 : Int32) (p2 : Int32) : Int32 × SR := sLet (sU R 6 0 0) (fun Rn2 : SR => (if (f_X6_isFour p1) = 0 then ((-1), Rn2) else (if (f_X6_in p2 0 3) = 0 then ((-1), Rn2) else (if p2 = 0 then (Rn2 0 (72 + p1).toNatClampNeg, Rn2) else (if p2 = 1 then (Rn2 0 (76 + p1).toNatClampNeg, Rn2) else (if p2 = 2 then (f_X6_members Rn2 p1, Rn2) else (f_X6_touched Rn2 (Rn2 0 180) p1, Rn2)))))))
set_option maxHeartbeats 4000000 in
set_option maxRecDepth 100000 in
theorem c_X6_group (l : Launch) (dC : Nat → ClassId) (dI : Nat → Nat → Nat) (cI cC cS : ClassId) (a : Nat → Nat) (R : SR) (sz : Nat) (p1 : Int32) (p2 : Int32) (ohv : vp_in (R 6 1) 6) (hI : RA R) (hs : RS R) : Met l yX6_group wsX6_group rm_X6_group (PcG (dC, dI) (tyL cI cC cS) (cMd a cI R) sz [.ref (a 0), .int p1, .int p2]) (va_Qi (fun (r : Int32) (u : SR) => (r, u) = f_X6_group R p1 p2 ∧ (RA u) ∧ (RS u)) (fun u U => va_P (dC, dI) vwCl (cMd a cI u) U.heap ∧ va_D (va_A (cMd a cI R) sz) (cMd a cI u)) (va_A (cMd a cI R) sz)) 0 0 (va_A (cMd a cI R) sz) := by
  refine Met.ofW (cc := cX6_group) (maxL := 3) (ret := (some .int)) (by decide) rfl ?_
  intro p e s m args below meth c s₁ B hml hv
  obtain ⟨rfl, hsz, hP, hK, hD0, hN⟩ := hv
  have hx := B.exec
  have hb := B.bytes
  have hr := B.returns
  have hts := atoms_spec (ws := wsX6_group) B.pre
  have hown : s.vm.findClass RX6 = some m.cls := findClass_of_methodNamed B.named
  have hlocks := B.notSynchronized
  subst hsz
  have hD := hD0.self (sz := s.heap.size)
  have hA : ∀ q : Nat, s.heap.size ≤ q → (va_A (cMd a cI R) s.heap.size) q := fun q h => Or.inr h
  have hS : va_S (va_A (cMd a cI R) s.heap.size) s.heap s.heap [] := va_S.rf
  have hin6 : ∀ w ∈ wsX60, w ∈ wsX6_group := fun _ h => List.mem_cons_of_mem _ (List.mem_append_right _ h)
  have hl := lv_entry [.ref (a 0), .int p1, .int p2] (n := 3) (Nat.le_of_ble_eq_true rfl)
  rw [lg_entry_eq]
  generalize (lg_sl [.ref (a 0), .int p1, .int p2] ++ List.replicate (3 - (lg_sl [.ref (a 0), .int p1, .int p2]).length) Slot.unset).toArray = ls at hl ⊢
  have hl : lv_has ls 3 [(0, .ref (a 0)), (1, .int p1), (2, .int p2)] := hl
  obtain ⟨R0, eR⟩ : ∃ z, z = f_X6_group R p1 p2 := ⟨_, rfl⟩
  have hR := eR
  rw [f_X6_group] at hR
  refine lv_aload_n hx hb dX6_group_0 rfl (lv_at hl 0 rfl) ?_
  refine lv_iconst (v := 0) hx hb dX6_group_1 (by decide) ?_
  refine va_put (D := (dC, dI)) (ci := 6) (v := .int 0) (ty := .int) (C := RX6) (T := TX6) (N := 15) hx hb hts hin6 tyX6 tyX6_ok nmX6 hown hK hP hD hS 0 rfl rfl 0 (by decide) (hts (.fieldLink RX6 28 "FeedDeskModel" "thrown" "I") (List.mem_of_getElem? (i := 1) rfl)) (fun _ h9 => h9) rfl (by decide +kernel) rfl rfl (Nat.le_of_ble_eq_true rfl) dX6_group_2 (fun H1 locs hP hD hS => ?_)
  have hP : va_P (dC, dI) vwCl (cMd a cI (sU R 6 0 0)) H1 := hP
  have hD : va_D (va_A (cMd a cI R) s.heap.size) (cMd a cI (sU R 6 0 0)) := hD
  obtain ⟨Rn2, eRn2⟩ : ∃ z : SR, z = sU R 6 0 0 := ⟨_, rfl⟩
  rw [sLet_eq, ← eRn2] at hR
  rw [← eRn2] at hP hD
  have ohv3 : vp_in (Rn2 6 1) 6 := (by rw [eRn2]; exact ohv)
  have hI4 : RA Rn2 := (by rw [eRn2]; exact hI)
  have hs5 : RS Rn2 := (by rw [eRn2]; exact hs)
  refine lv_iload_n hx hb dX6_group_5 rfl (lv_at hl 1 rfl) ?_
  have hFc : ∀ q : Nat, va_A [] H1.size q → (va_A (cMd a cI R) s.heap.size) q := roF hS hA
  refine va_calli (va_runS (As := [.int p1]) (rest := []) ⟨hx, hb, hml, hown, hts⟩ (c_X6_isFour l dC dI cI cC cS H1.size p1) (va_cwS 1 hts gX6_group_X6_isFour rfl rfl rfl (by decide +kernel) ⟨Nat.le_of_ble_eq_true rfl, Nat.le_of_ble_eq_true rfl⟩) (pS hK (va_P_nil) (va_D_nil) hN) rfl rfl hl.1 rfl (lv_room (Nat.le_of_ble_eq_true rfl)) dX6_group_6 ⟨Nat.le_of_ble_eq_true rfl, Nat.le_of_ble_eq_true rfl⟩) hS (fun q _ h => hFc q h) hFc (fun r_6 u_6 t_6 H7 locs ht hvm hw hB hz1 hk1 hS => ?_)
  obtain ⟨hw, hre8⟩ := hw
  subst hw
  have hP := ro_keep hP hk1
  refine lv_if_eq (tgt := 21) hx hb dX6_group_9 (by decide) (fun c9 => ?_) (fun c9 => ?_)
  · rw [if_pos c9] at hR
    refine lv_iconst (v := (-1)) hx hb dX6_group_21 (by decide) ?_
    exact W.iret (v := (-1)) hx hb hr (fun t ht hWw => ⟨⟨(-1), Rn2, rfl, ⟨hR.symm.trans eR, hI4, hs5⟩, by rw [ht]; exact hP, hD⟩, hS.F ht⟩) hS.2.2 dX6_group_22
  · rw [if_neg c9] at hR
    obtain ⟨ip1, hip1, ep1⟩ := vp_in_of (four_vp c9) (by decide)
    refine lv_iload_n hx hb dX6_group_12 rfl (lv_at hl 2 rfl) ?_
    refine lv_iconst (v := 0) hx hb dX6_group_13 (by decide) ?_
    refine lv_iconst (v := 3) hx hb dX6_group_14 (by decide) ?_
    have hFc : ∀ q : Nat, va_A [] H7.size q → (va_A (cMd a cI R) s.heap.size) q := roF hS hA
    refine va_calli (va_runS (As := [.int p2, .int 0, .int 3]) (rest := []) ⟨hx, hb, hml, hown, hts⟩ (c_X6_in l dC dI cI cC cS H7.size p2 0 3) (va_cwS 3 hts gX6_group_X6_in rfl rfl rfl (by decide +kernel) ⟨Nat.le_of_ble_eq_true rfl, Nat.le_of_ble_eq_true rfl⟩) (pS hK (va_P_nil) (va_D_nil) hN) rfl rfl hl.1 rfl (lv_room (Nat.le_of_ble_eq_true rfl)) dX6_group_15 ⟨Nat.le_of_ble_eq_true rfl, Nat.le_of_ble_eq_true rfl⟩) hS (fun q _ h => hFc q h) hFc (fun r_10 u_10 t_10 H11 locs ht hvm hw hB hz1 hk1 hS => ?_)
    obtain ⟨hw, hre12⟩ := hw
    subst hw
    have hP := ro_keep hP hk1
    refine lv_if_ne (tgt := 23) hx hb dX6_group_18 (by decide) (fun c13 => ?_) (fun c13 => ?_)
    · rw [if_neg c13] at hR
      refine lv_iload_n hx hb dX6_group_23 rfl (lv_at hl 2 rfl) ?_
      refine lv_if_ne (tgt := 39) hx hb dX6_group_24 (by decide) (fun c14 => ?_) (fun c14 => ?_)
      · rw [if_neg c14] at hR
        refine lv_iload_n hx hb dX6_group_39 rfl (lv_at hl 2 rfl) ?_
        refine lv_iconst (v := 1) hx hb dX6_group_40 (by decide) ?_
        refine lv_icmp_ne (tgt := 56) hx hb dX6_group_41 (by decide) (fun c15 => ?_) (fun c15 => ?_)
        · rw [if_neg c15] at hR
          refine lv_iload_n hx hb dX6_group_56 rfl (lv_at hl 2 rfl) ?_
          refine lv_iconst (v := 2) hx hb dX6_group_57 (by decide) ?_
          refine lv_icmp_ne (tgt := 69) hx hb dX6_group_58 (by decide) (fun c16 => ?_) (fun c16 => ?_)
          · rw [if_neg c16] at hR
            refine lv_aload_n hx hb dX6_group_69 rfl (lv_at hl 0 rfl) ?_
            refine lv_aload_n hx hb dX6_group_70 rfl (lv_at hl 0 rfl) ?_
            refine va_get (D := (dC, dI)) (ci := 6) (v := .ref (a 1)) (C := RX6) (T := TX6) (N := 15) hx hb hts hin6 hown hK hP 0 rfl rfl 1 (by decide) (hts (.fieldLink RX6 7 "FeedDeskModel" "s" "[I") (List.mem_of_getElem? (i := 2) rfl)) (fun _ h9 => h9) rfl dX6_group_71 ?_
            refine lv_sipush (v := 180) hx hb dX6_group_74 (by decide) ?_
            refine va_iald (f := Rn2 0) hx hb hK hP 1 0 rfl rfl (vp_of_B (by decide +kernel : vp_okB (180) 289 = true)) dX6_group_77 ?_
            refine lv_eqi (y := Rn2 0 180) rfl ?_
            refine lv_iload_n hx hb dX6_group_78 rfl (lv_at hl 1 rfl) ?_
            have hPc : va_P (dC, dI) vwCl (cMd a cI Rn2) H11 := hP.sub [0, 1, 2, 3, 4, 5, 6] rfl
            have hDc : va_D (va_A (cMd a cI R) s.heap.size) (cMd a cI Rn2) := hD.sub [0, 1, 2, 3, 4, 5, 6] (by decide) rfl
            have hFc : ∀ q : Nat, va_A [] H11.size q → (va_A (cMd a cI R) s.heap.size) q := roF hS hA
            refine va_calli (va_runV (As := [.int (Rn2 0 180), .int p1]) (rest := []) ⟨hx, hb, hml, hown, hts⟩ (c_X6_touched l dC dI cI cC cS a Rn2 H11.size (Rn2 0 180) p1) (cwV 2 hts gX6_group_X6_touched rfl rfl rfl (by decide +kernel) ⟨Nat.le_of_ble_eq_true rfl, Nat.le_of_ble_eq_true rfl⟩) (pV (q0 := 0) hK hPc hDc hN rfl rfl) rfl rfl hl.1 rfl (lv_room (Nat.le_of_ble_eq_true rfl)) dX6_group_79 ⟨Nat.le_of_ble_eq_true rfl, Nat.le_of_ble_eq_true rfl⟩) hS (fun q _ h => hFc q h) hFc (fun r_17 u_17 t_17 H18 locs ht hvm hw hB hz1 hk1 hS => ?_)
            subst hw
            have hP := ro_keep hP hk1
            exact W.iret (v := f_X6_touched Rn2 (Rn2 0 180) p1) hx hb hr (fun t ht hWw => ⟨⟨f_X6_touched Rn2 (Rn2 0 180) p1, Rn2, rfl, ⟨hR.symm.trans eR, hI4, hs5⟩, by rw [ht]; exact hP, hD⟩, hS.F ht⟩) hS.2.2 dX6_group_82
          · rw [if_pos c16] at hR
            refine lv_aload_n hx hb dX6_group_61 rfl (lv_at hl 0 rfl) ?_
            refine lv_iload_n hx hb dX6_group_62 rfl (lv_at hl 1 rfl) ?_
            have hPc : va_P (dC, dI) vwCl (cMd a cI Rn2) H11 := hP.sub [0, 1, 2, 3, 4, 5, 6] rfl
            have hDc : va_D (va_A (cMd a cI R) s.heap.size) (cMd a cI Rn2) := hD.sub [0, 1, 2, 3, 4, 5, 6] (by decide) rfl
            have hFc : ∀ q : Nat, va_A [] H11.size q → (va_A (cMd a cI R) s.heap.size) q := roF hS hA
            refine va_calli (va_runV (As := [.int p1]) (rest := []) ⟨hx, hb, hml, hown, hts⟩ (c_X6_members l dC dI cI cC cS a Rn2 H11.size p1) (cwV 1 hts gX6_group_X6_members rfl rfl rfl (by decide +kernel) ⟨Nat.le_of_ble_eq_true rfl, Nat.le_of_ble_eq_true rfl⟩) (pV (q0 := 0) hK hPc hDc hN rfl rfl) rfl rfl hl.1 rfl (lv_room (Nat.le_of_ble_eq_true rfl)) dX6_group_63 ⟨Nat.le_of_ble_eq_true rfl, Nat.le_of_ble_eq_true rfl⟩) hS (fun q _ h => hFc q h) hFc (fun r_19 u_19 t_19 H20 locs ht hvm hw hB hz1 hk1 hS => ?_)
            subst hw
            have hP := ro_keep hP hk1
            refine lv_goto (tgt := 82) hx hb dX6_group_66 (by decide) ?_
            exact W.iret (v := f_X6_members Rn2 p1) hx hb hr (fun t ht hWw => ⟨⟨f_X6_members Rn2 p1, Rn2, rfl, ⟨hR.symm.trans eR, hI4, hs5⟩, by rw [ht]; exact hP, hD⟩, hS.F ht⟩) hS.2.2 dX6_group_82
        · rw [if_pos c15] at hR
          refine lv_aload_n hx hb dX6_group_44 rfl (lv_at hl 0 rfl) ?_
          refine va_get (D := (dC, dI)) (ci := 6) (v := .ref (a 1)) (C := RX6) (T := TX6) (N := 15) hx hb hts hin6 hown hK hP 0 rfl rfl 1 (by decide) (hts (.fieldLink RX6 7 "FeedDeskModel" "s" "[I") (List.mem_of_getElem? (i := 2) rfl)) (fun _ h9 => h9) rfl dX6_group_45 ?_
          refine lv_bipush (v := 76) hx hb dX6_group_48 (by decide) ?_
          refine lv_iload_n hx hb dX6_group_50 rfl (lv_at hl 1 rfl) ?_
          refine lv_iadd hx hb dX6_group_51 ?_
          refine va_iald (f := Rn2 0) hx hb hK hP 1 0 rfl rfl (by rw [ep1]; exact vp_of_B (ix_12 ip1 hip1)) dX6_group_52 ?_
          refine lv_goto (tgt := 82) hx hb dX6_group_53 (by decide) ?_
          exact W.iret (v := Rn2 0 (76 + p1).toNatClampNeg) hx hb hr (fun t ht hWw => ⟨⟨Rn2 0 (76 + p1).toNatClampNeg, Rn2, rfl, ⟨hR.symm.trans eR, hI4, hs5⟩, by rw [ht]; exact hP, hD⟩, hS.F ht⟩) hS.2.2 dX6_group_82
      · rw [if_pos c14] at hR
        refine lv_aload_n hx hb dX6_group_27 rfl (lv_at hl 0 rfl) ?_
        refine va_get (D := (dC, dI)) (ci := 6) (v := .ref (a 1)) (C := RX6) (T := TX6) (N := 15) hx hb hts hin6 hown hK hP 0 rfl rfl 1 (by decide) (hts (.fieldLink RX6 7 "FeedDeskModel" "s" "[I") (List.mem_of_getElem? (i := 2) rfl)) (fun _ h9 => h9) rfl dX6_group_28 ?_
        refine lv_bipush (v := 72) hx hb dX6_group_31 (by decide) ?_
        refine lv_iload_n hx hb dX6_group_33 rfl (lv_at hl 1 rfl) ?_
        refine lv_iadd hx hb dX6_group_34 ?_
        refine va_iald (f := Rn2 0) hx hb hK hP 1 0 rfl rfl (by rw [ep1]; exact vp_of_B (ix_13 ip1 hip1)) dX6_group_35 ?_
        refine lv_goto (tgt := 82) hx hb dX6_group_36 (by decide) ?_
        exact W.iret (v := Rn2 0 (72 + p1).toNatClampNeg) hx hb hr (fun t ht hWw => ⟨⟨Rn2 0 (72 + p1).toNatClampNeg, Rn2, rfl, ⟨hR.symm.trans eR, hI4, hs5⟩, by rw [ht]; exact hP, hD⟩, hS.F ht⟩) hS.2.2 dX6_group_82
    · rw [if_pos c13] at hR
      refine lv_iconst (v := (-1)) hx hb dX6_group_21 (by decide) ?_
      exact W.iret (v := (-1)) hx hb hr (fun t ht hWw => ⟨⟨(-1), Rn2, rfl, ⟨hR.symm.trans eR, hI4, hs5⟩, by rw [ht]; exact hP, hD⟩, hS.F ht⟩) hS.2.2 dX6_group_22
abbrev rm_X6_feed : Room := { frames := 5, cells := 0, slots := 0, locals := 111 }
def f_X6_feed (R : SR) (p1 : Int32) (p2 : Int32) : Int32 × SR := sLet (sU R 6 0 0) (fun Rn2 : SR => (if (f_X6_isFour p1) = 0 then ((-1), Rn2) else (if (f_X6_in p2 0 3) = 0 then ((-1), Rn2) else (if p2 = 0 then (Rn2 0 (80 + p1).toNatClampNeg, Rn2) else (if p2 = 1 then (if (Rn2 0 (84 + p1).toNatClampNeg) = (-1) then ((-99), Rn2) else (Rn2 0 (84 + p1).toNatClampNeg, Rn2)) else (if p2 = 2 then (Rn2 0 (136 + p1).toNatClampNeg, Rn2) else (f_X6_reaching Rn2 p1, Rn2)))))))
set_option maxHeartbeats 4000000 in
set_option maxRecDepth 100000 in
theorem c_X6_feed (l : Launch) (dC : Nat → ClassId) (dI : Nat → Nat → Nat) (cI cC cS : ClassId) (a : Nat → Nat) (R : SR) (sz : Nat) (p1 : Int32) (p2 : Int32) (ohv : vp_in (R 6 1) 6) (hI : RA R) (hs : RS R) : Met l yX6_feed wsX6_feed rm_X6_feed (PcG (dC, dI) (tyL cI cC cS) (cMd a cI R) sz [.ref (a 0), .int p1, .int p2]) (va_Qi (fun (r : Int32) (u : SR) => (r, u) = f_X6_feed R p1 p2 ∧ (RA u) ∧ (RS u)) (fun u U => va_P (dC, dI) vwCl (cMd a cI u) U.heap ∧ va_D (va_A (cMd a cI R) sz) (cMd a cI u)) (va_A (cMd a cI R) sz)) 0 0 (va_A (cMd a cI R) sz) := by
  refine Met.ofW (cc := cX6_feed) (maxL := 3) (ret := (some .int)) (by decide) rfl ?_
  intro p e s m args below meth c s₁ B hml hv
  obtain ⟨rfl, hsz, hP, hK, hD0, hN⟩ := hv
  have hx := B.exec
  have hb := B.bytes
  have hr := B.returns
  have hts := atoms_spec (ws := wsX6_feed) B.pre
  have hown : s.vm.findClass RX6 = some m.cls := findClass_of_methodNamed B.named
  have hlocks := B.notSynchronized
  subst hsz
  have hD := hD0.self (sz := s.heap.size)
  have hA : ∀ q : Nat, s.heap.size ≤ q → (va_A (cMd a cI R) s.heap.size) q := fun q h => Or.inr h
  have hS : va_S (va_A (cMd a cI R) s.heap.size) s.heap s.heap [] := va_S.rf
  have hin6 : ∀ w ∈ wsX60, w ∈ wsX6_feed := fun _ h => List.mem_cons_of_mem _ (List.mem_append_right _ h)
  have hl := lv_entry [.ref (a 0), .int p1, .int p2] (n := 3) (Nat.le_of_ble_eq_true rfl)
  rw [lg_entry_eq]
  generalize (lg_sl [.ref (a 0), .int p1, .int p2] ++ List.replicate (3 - (lg_sl [.ref (a 0), .int p1, .int p2]).length) Slot.unset).toArray = ls at hl ⊢
  have hl : lv_has ls 3 [(0, .ref (a 0)), (1, .int p1), (2, .int p2)] := hl
  obtain ⟨R0, eR⟩ : ∃ z, z = f_X6_feed R p1 p2 := ⟨_, rfl⟩
  have hR := eR
  rw [f_X6_feed] at hR
  refine lv_aload_n hx hb dX6_feed_0 rfl (lv_at hl 0 rfl) ?_
  refine lv_iconst (v := 0) hx hb dX6_feed_1 (by decide) ?_
  refine va_put (D := (dC, dI)) (ci := 6) (v := .int 0) (ty := .int) (C := RX6) (T := TX6) (N := 15) hx hb hts hin6 tyX6 tyX6_ok nmX6 hown hK hP hD hS 0 rfl rfl 0 (by decide) (hts (.fieldLink RX6 28 "FeedDeskModel" "thrown" "I") (List.mem_of_getElem? (i := 1) rfl)) (fun _ h9 => h9) rfl (by decide +kernel) rfl rfl (Nat.le_of_ble_eq_true rfl) dX6_feed_2 (fun H1 locs hP hD hS => ?_)
  have hP : va_P (dC, dI) vwCl (cMd a cI (sU R 6 0 0)) H1 := hP
  have hD : va_D (va_A (cMd a cI R) s.heap.size) (cMd a cI (sU R 6 0 0)) := hD
  obtain ⟨Rn2, eRn2⟩ : ∃ z : SR, z = sU R 6 0 0 := ⟨_, rfl⟩
  rw [sLet_eq, ← eRn2] at hR
  rw [← eRn2] at hP hD
  have ohv3 : vp_in (Rn2 6 1) 6 := (by rw [eRn2]; exact ohv)
  have hI4 : RA Rn2 := (by rw [eRn2]; exact hI)
  have hs5 : RS Rn2 := (by rw [eRn2]; exact hs)
  refine lv_iload_n hx hb dX6_feed_5 rfl (lv_at hl 1 rfl) ?_
  have hFc : ∀ q : Nat, va_A [] H1.size q → (va_A (cMd a cI R) s.heap.size) q := roF hS hA
  refine va_calli (va_runS (As := [.int p1]) (rest := []) ⟨hx, hb, hml, hown, hts⟩ (c_X6_isFour l dC dI cI cC cS H1.size p1) (va_cwS 1 hts gX6_feed_X6_isFour rfl rfl rfl (by decide +kernel) ⟨Nat.le_of_ble_eq_true rfl, Nat.le_of_ble_eq_true rfl⟩) (pS hK (va_P_nil) (va_D_nil) hN) rfl rfl hl.1 rfl (lv_room (Nat.le_of_ble_eq_true rfl)) dX6_feed_6 ⟨Nat.le_of_ble_eq_true rfl, Nat.le_of_ble_eq_true rfl⟩) hS (fun q _ h => hFc q h) hFc (fun r_6 u_6 t_6 H7 locs ht hvm hw hB hz1 hk1 hS => ?_)
  obtain ⟨hw, hre8⟩ := hw
  subst hw
  have hP := ro_keep hP hk1
  refine lv_if_eq (tgt := 21) hx hb dX6_feed_9 (by decide) (fun c9 => ?_) (fun c9 => ?_)
  · rw [if_pos c9] at hR
    refine lv_iconst (v := (-1)) hx hb dX6_feed_21 (by decide) ?_
    exact W.iret (v := (-1)) hx hb hr (fun t ht hWw => ⟨⟨(-1), Rn2, rfl, ⟨hR.symm.trans eR, hI4, hs5⟩, by rw [ht]; exact hP, hD⟩, hS.F ht⟩) hS.2.2 dX6_feed_22
  · rw [if_neg c9] at hR
    obtain ⟨ip1, hip1, ep1⟩ := vp_in_of (four_vp c9) (by decide)
    refine lv_iload_n hx hb dX6_feed_12 rfl (lv_at hl 2 rfl) ?_
    refine lv_iconst (v := 0) hx hb dX6_feed_13 (by decide) ?_
    refine lv_iconst (v := 3) hx hb dX6_feed_14 (by decide) ?_
    have hFc : ∀ q : Nat, va_A [] H7.size q → (va_A (cMd a cI R) s.heap.size) q := roF hS hA
    refine va_calli (va_runS (As := [.int p2, .int 0, .int 3]) (rest := []) ⟨hx, hb, hml, hown, hts⟩ (c_X6_in l dC dI cI cC cS H7.size p2 0 3) (va_cwS 3 hts gX6_feed_X6_in rfl rfl rfl (by decide +kernel) ⟨Nat.le_of_ble_eq_true rfl, Nat.le_of_ble_eq_true rfl⟩) (pS hK (va_P_nil) (va_D_nil) hN) rfl rfl hl.1 rfl (lv_room (Nat.le_of_ble_eq_true rfl)) dX6_feed_15 ⟨Nat.le_of_ble_eq_true rfl, Nat.le_of_ble_eq_true rfl⟩) hS (fun q _ h => hFc q h) hFc (fun r_10 u_10 t_10 H11 locs ht hvm hw hB hz1 hk1 hS => ?_)
    obtain ⟨hw, hre12⟩ := hw
    subst hw
    have hP := ro_keep hP hk1
    refine lv_if_ne (tgt := 23) hx hb dX6_feed_18 (by decide) (fun c13 => ?_) (fun c13 => ?_)
    · rw [if_neg c13] at hR
      refine lv_iload_n hx hb dX6_feed_23 rfl (lv_at hl 2 rfl) ?_
      rcases Decidable.em (p2 = 0) with c14 | c14
      · rw [if_pos c14] at hR
        refine lv_tableIn (tgt := 52) hx hb dX6_feed_24 (by rw [c14]; decide) (by rw [c14]; decide) (by rw [c14]; rfl) (by decide) ?_
        refine lv_aload_n hx hb dX6_feed_52 rfl (lv_at hl 0 rfl) ?_
        refine va_get (D := (dC, dI)) (ci := 6) (v := .ref (a 1)) (C := RX6) (T := TX6) (N := 15) hx hb hts hin6 hown hK hP 0 rfl rfl 1 (by decide) (hts (.fieldLink RX6 7 "FeedDeskModel" "s" "[I") (List.mem_of_getElem? (i := 2) rfl)) (fun _ h9 => h9) rfl dX6_feed_53 ?_
        refine lv_bipush (v := 80) hx hb dX6_feed_56 (by decide) ?_
        refine lv_iload_n hx hb dX6_feed_58 rfl (lv_at hl 1 rfl) ?_
        refine lv_iadd hx hb dX6_feed_59 ?_
        refine va_iald (f := Rn2 0) hx hb hK hP 1 0 rfl rfl (by rw [ep1]; exact vp_of_B (ix_15 ip1 hip1)) dX6_feed_60 ?_
        exact W.iret (v := Rn2 0 (80 + p1).toNatClampNeg) hx hb hr (fun t ht hWw => ⟨⟨Rn2 0 (80 + p1).toNatClampNeg, Rn2, rfl, ⟨hR.symm.trans eR, hI4, hs5⟩, by rw [ht]; exact hP, hD⟩, hS.F ht⟩) hS.2.2 dX6_feed_61
      · rw [if_neg c14] at hR
        rcases Decidable.em (p2 = 1) with c15 | c15
        · rw [if_pos c15] at hR
          refine lv_tableIn (tgt := 62) hx hb dX6_feed_24 (by rw [c15]; decide) (by rw [c15]; decide) (by rw [c15]; rfl) (by decide) ?_
          refine lv_aload_n hx hb dX6_feed_62 rfl (lv_at hl 0 rfl) ?_
          refine va_get (D := (dC, dI)) (ci := 6) (v := .ref (a 1)) (C := RX6) (T := TX6) (N := 15) hx hb hts hin6 hown hK hP 0 rfl rfl 1 (by decide) (hts (.fieldLink RX6 7 "FeedDeskModel" "s" "[I") (List.mem_of_getElem? (i := 2) rfl)) (fun _ h9 => h9) rfl dX6_feed_63 ?_
          refine lv_bipush (v := 84) hx hb dX6_feed_66 (by decide) ?_
          refine lv_iload_n hx hb dX6_feed_68 rfl (lv_at hl 1 rfl) ?_
          refine lv_iadd hx hb dX6_feed_69 ?_
          refine va_iald (f := Rn2 0) hx hb hK hP 1 0 rfl rfl (by rw [ep1]; exact vp_of_B (ix_16 ip1 hip1)) dX6_feed_70 ?_
          refine lv_iconst (v := (-1)) hx hb dX6_feed_71 (by decide) ?_
          refine lv_icmp_ne (tgt := 80) hx hb dX6_feed_72 (by decide) (fun c16 => ?_) (fun c16 => ?_)
          · rw [if_neg c16] at hR
            refine lv_aload_n hx hb dX6_feed_80 rfl (lv_at hl 0 rfl) ?_
            refine va_get (D := (dC, dI)) (ci := 6) (v := .ref (a 1)) (C := RX6) (T := TX6) (N := 15) hx hb hts hin6 hown hK hP 0 rfl rfl 1 (by decide) (hts (.fieldLink RX6 7 "FeedDeskModel" "s" "[I") (List.mem_of_getElem? (i := 2) rfl)) (fun _ h9 => h9) rfl dX6_feed_81 ?_
            refine lv_bipush (v := 84) hx hb dX6_feed_84 (by decide) ?_
            refine lv_iload_n hx hb dX6_feed_86 rfl (lv_at hl 1 rfl) ?_
            refine lv_iadd hx hb dX6_feed_87 ?_
            refine va_iald (f := Rn2 0) hx hb hK hP 1 0 rfl rfl (by rw [ep1]; exact vp_of_B (ix_16 ip1 hip1)) dX6_feed_88 ?_
            exact W.iret (v := Rn2 0 (84 + p1).toNatClampNeg) hx hb hr (fun t ht hWw => ⟨⟨Rn2 0 (84 + p1).toNatClampNeg, Rn2, rfl, ⟨hR.symm.trans eR, hI4, hs5⟩, by rw [ht]; exact hP, hD⟩, hS.F ht⟩) hS.2.2 dX6_feed_89
          · rw [if_pos c16] at hR
            refine lv_bipush (v := (-99)) hx hb dX6_feed_75 (by decide) ?_
            refine lv_goto (tgt := 89) hx hb dX6_feed_77 (by decide) ?_
            exact W.iret (v := (-99)) hx hb hr (fun t ht hWw => ⟨⟨(-99), Rn2, rfl, ⟨hR.symm.trans eR, hI4, hs5⟩, by rw [ht]; exact hP, hD⟩, hS.F ht⟩) hS.2.2 dX6_feed_89
        · rw [if_neg c15] at hR
          rcases Decidable.em (p2 = 2) with c17 | c17
          · rw [if_pos c17] at hR
            refine lv_tableIn (tgt := 90) hx hb dX6_feed_24 (by rw [c17]; decide) (by rw [c17]; decide) (by rw [c17]; rfl) (by decide) ?_
            refine lv_aload_n hx hb dX6_feed_90 rfl (lv_at hl 0 rfl) ?_
            refine va_get (D := (dC, dI)) (ci := 6) (v := .ref (a 1)) (C := RX6) (T := TX6) (N := 15) hx hb hts hin6 hown hK hP 0 rfl rfl 1 (by decide) (hts (.fieldLink RX6 7 "FeedDeskModel" "s" "[I") (List.mem_of_getElem? (i := 2) rfl)) (fun _ h9 => h9) rfl dX6_feed_91 ?_
            refine lv_sipush (v := 136) hx hb dX6_feed_94 (by decide) ?_
            refine lv_iload_n hx hb dX6_feed_97 rfl (lv_at hl 1 rfl) ?_
            refine lv_iadd hx hb dX6_feed_98 ?_
            refine va_iald (f := Rn2 0) hx hb hK hP 1 0 rfl rfl (by rw [ep1]; exact vp_of_B (ix_28 ip1 hip1)) dX6_feed_99 ?_
            exact W.iret (v := Rn2 0 (136 + p1).toNatClampNeg) hx hb hr (fun t ht hWw => ⟨⟨Rn2 0 (136 + p1).toNatClampNeg, Rn2, rfl, ⟨hR.symm.trans eR, hI4, hs5⟩, by rw [ht]; exact hP, hD⟩, hS.F ht⟩) hS.2.2 dX6_feed_100
          · rw [if_neg c17] at hR
            have tz0 : ¬ p2.toInt = 0 := fun h => c14 (Int32.toInt_inj.mp (h.trans (by decide)))
            have tz1 : ¬ p2.toInt = 1 := fun h => c15 (Int32.toInt_inj.mp (h.trans (by decide)))
            have tz2 : ¬ p2.toInt = 2 := fun h => c17 (Int32.toInt_inj.mp (h.trans (by decide)))
            refine lv_tableOut (tgt := 101) hx hb dX6_feed_24 (by omega) (by decide) ?_
            refine lv_aload_n hx hb dX6_feed_101 rfl (lv_at hl 0 rfl) ?_
            refine lv_iload_n hx hb dX6_feed_102 rfl (lv_at hl 1 rfl) ?_
            have hPc : va_P (dC, dI) vwCl (cMd a cI Rn2) H11 := hP.sub [0, 1, 2, 3, 4, 5, 6] rfl
            have hDc : va_D (va_A (cMd a cI R) s.heap.size) (cMd a cI Rn2) := hD.sub [0, 1, 2, 3, 4, 5, 6] (by decide) rfl
            have hFc : ∀ q : Nat, va_A [] H11.size q → (va_A (cMd a cI R) s.heap.size) q := roF hS hA
            refine va_calli (va_runV (As := [.int p1]) (rest := []) ⟨hx, hb, hml, hown, hts⟩ (c_X6_reaching l dC dI cI cC cS a Rn2 H11.size p1 (four_vp c9)) (cwV 1 hts gX6_feed_X6_reaching rfl rfl rfl (by decide +kernel) ⟨Nat.le_of_ble_eq_true rfl, Nat.le_of_ble_eq_true rfl⟩) (pV (q0 := 0) hK hPc hDc hN rfl rfl) rfl rfl hl.1 rfl (lv_room (Nat.le_of_ble_eq_true rfl)) dX6_feed_103 ⟨Nat.le_of_ble_eq_true rfl, Nat.le_of_ble_eq_true rfl⟩) hS (fun q _ h => hFc q h) hFc (fun r_18 u_18 t_18 H19 locs ht hvm hw hB hz1 hk1 hS => ?_)
            subst hw
            have hP := ro_keep hP hk1
            exact W.iret (v := f_X6_reaching Rn2 p1) hx hb hr (fun t ht hWw => ⟨⟨f_X6_reaching Rn2 p1, Rn2, rfl, ⟨hR.symm.trans eR, hI4, hs5⟩, by rw [ht]; exact hP, hD⟩, hS.F ht⟩) hS.2.2 dX6_feed_106
    · rw [if_pos c13] at hR
      refine lv_iconst (v := (-1)) hx hb dX6_feed_21 (by decide) ?_
      exact W.iret (v := (-1)) hx hb hr (fun t ht hWw => ⟨⟨(-1), Rn2, rfl, ⟨hR.symm.trans eR, hI4, hs5⟩, by rw [ht]; exact hP, hD⟩, hS.F ht⟩) hS.2.2 dX6_feed_22
abbrev rm_X6_send : Room := { frames := 4, cells := 0, slots := 0, locals := 88 }
def f_X6_send (R : SR) (p1 : Int32) (p2 : Int32) (p3 : Int32) : Int32 × SR := sLet (sU R 6 0 0) (fun Rn2 : SR => (if (f_X6_isFour p1) = 0 then ((-1), Rn2) else (if (f_X6_isChannel p2) = 0 then ((-1), Rn2) else (if (f_X6_in p3 0 1) = 0 then ((-1), Rn2) else (if p3 = 0 then (f_X6_sendOf Rn2 p1 p2, Rn2) else (f_X6_gain Rn2 p1 p2, Rn2))))))
set_option maxHeartbeats 4000000 in
set_option maxRecDepth 100000 in
theorem c_X6_send (l : Launch) (dC : Nat → ClassId) (dI : Nat → Nat → Nat) (cI cC cS : ClassId) (a : Nat → Nat) (R : SR) (sz : Nat) (p1 : Int32) (p2 : Int32) (p3 : Int32) (ohv : vp_in (R 6 1) 6) (hI : RA R) (hs : RS R) : Met l yX6_send wsX6_send rm_X6_send (PcG (dC, dI) (tyL cI cC cS) (cMd a cI R) sz [.ref (a 0), .int p1, .int p2, .int p3]) (va_Qi (fun (r : Int32) (u : SR) => (r, u) = f_X6_send R p1 p2 p3 ∧ (RA u) ∧ (RS u)) (fun u U => va_P (dC, dI) vwCl (cMd a cI u) U.heap ∧ va_D (va_A (cMd a cI R) sz) (cMd a cI u)) (va_A (cMd a cI R) sz)) 0 0 (va_A (cMd a cI R) sz) := by
  refine Met.ofW (cc := cX6_send) (maxL := 4) (ret := (some .int)) (by decide) rfl ?_
  intro p e s m args below meth c s₁ B hml hv
  obtain ⟨rfl, hsz, hP, hK, hD0, hN⟩ := hv
  have hx := B.exec
  have hb := B.bytes
  have hr := B.returns
  have hts := atoms_spec (ws := wsX6_send) B.pre
  have hown : s.vm.findClass RX6 = some m.cls := findClass_of_methodNamed B.named
  have hlocks := B.notSynchronized
  subst hsz
  have hD := hD0.self (sz := s.heap.size)
  have hA : ∀ q : Nat, s.heap.size ≤ q → (va_A (cMd a cI R) s.heap.size) q := fun q h => Or.inr h
  have hS : va_S (va_A (cMd a cI R) s.heap.size) s.heap s.heap [] := va_S.rf
  have hin6 : ∀ w ∈ wsX60, w ∈ wsX6_send := fun _ h => List.mem_cons_of_mem _ (List.mem_append_right _ h)
  have hl := lv_entry [.ref (a 0), .int p1, .int p2, .int p3] (n := 4) (Nat.le_of_ble_eq_true rfl)
  rw [lg_entry_eq]
  generalize (lg_sl [.ref (a 0), .int p1, .int p2, .int p3] ++ List.replicate (4 - (lg_sl [.ref (a 0), .int p1, .int p2, .int p3]).length) Slot.unset).toArray = ls at hl ⊢
  have hl : lv_has ls 4 [(0, .ref (a 0)), (1, .int p1), (2, .int p2), (3, .int p3)] := hl
  obtain ⟨R0, eR⟩ : ∃ z, z = f_X6_send R p1 p2 p3 := ⟨_, rfl⟩
  have hR := eR
  rw [f_X6_send] at hR
  refine lv_aload_n hx hb dX6_send_0 rfl (lv_at hl 0 rfl) ?_
  refine lv_iconst (v := 0) hx hb dX6_send_1 (by decide) ?_
  refine va_put (D := (dC, dI)) (ci := 6) (v := .int 0) (ty := .int) (C := RX6) (T := TX6) (N := 15) hx hb hts hin6 tyX6 tyX6_ok nmX6 hown hK hP hD hS 0 rfl rfl 0 (by decide) (hts (.fieldLink RX6 28 "FeedDeskModel" "thrown" "I") (List.mem_of_getElem? (i := 1) rfl)) (fun _ h9 => h9) rfl (by decide +kernel) rfl rfl (Nat.le_of_ble_eq_true rfl) dX6_send_2 (fun H1 locs hP hD hS => ?_)
  have hP : va_P (dC, dI) vwCl (cMd a cI (sU R 6 0 0)) H1 := hP
  have hD : va_D (va_A (cMd a cI R) s.heap.size) (cMd a cI (sU R 6 0 0)) := hD
  obtain ⟨Rn2, eRn2⟩ : ∃ z : SR, z = sU R 6 0 0 := ⟨_, rfl⟩
  rw [sLet_eq, ← eRn2] at hR
  rw [← eRn2] at hP hD
  have ohv3 : vp_in (Rn2 6 1) 6 := (by rw [eRn2]; exact ohv)
  have hI4 : RA Rn2 := (by rw [eRn2]; exact hI)
  have hs5 : RS Rn2 := (by rw [eRn2]; exact hs)
  refine lv_iload_n hx hb dX6_send_5 rfl (lv_at hl 1 rfl) ?_
  have hFc : ∀ q : Nat, va_A [] H1.size q → (va_A (cMd a cI R) s.heap.size) q := roF hS hA
  refine va_calli (va_runS (As := [.int p1]) (rest := []) ⟨hx, hb, hml, hown, hts⟩ (c_X6_isFour l dC dI cI cC cS H1.size p1) (va_cwS 1 hts gX6_send_X6_isFour rfl rfl rfl (by decide +kernel) ⟨Nat.le_of_ble_eq_true rfl, Nat.le_of_ble_eq_true rfl⟩) (pS hK (va_P_nil) (va_D_nil) hN) rfl rfl hl.1 rfl (lv_room (Nat.le_of_ble_eq_true rfl)) dX6_send_6 ⟨Nat.le_of_ble_eq_true rfl, Nat.le_of_ble_eq_true rfl⟩) hS (fun q _ h => hFc q h) hFc (fun r_6 u_6 t_6 H7 locs ht hvm hw hB hz1 hk1 hS => ?_)
  obtain ⟨hw, hre8⟩ := hw
  subst hw
  have hP := ro_keep hP hk1
  refine lv_if_eq (tgt := 28) hx hb dX6_send_9 (by decide) (fun c9 => ?_) (fun c9 => ?_)
  · rw [if_pos c9] at hR
    refine lv_iconst (v := (-1)) hx hb dX6_send_28 (by decide) ?_
    exact W.iret (v := (-1)) hx hb hr (fun t ht hWw => ⟨⟨(-1), Rn2, rfl, ⟨hR.symm.trans eR, hI4, hs5⟩, by rw [ht]; exact hP, hD⟩, hS.F ht⟩) hS.2.2 dX6_send_29
  · rw [if_neg c9] at hR
    refine lv_iload_n hx hb dX6_send_12 rfl (lv_at hl 2 rfl) ?_
    have hFc : ∀ q : Nat, va_A [] H7.size q → (va_A (cMd a cI R) s.heap.size) q := roF hS hA
    refine va_calli (va_runS (As := [.int p2]) (rest := []) ⟨hx, hb, hml, hown, hts⟩ (c_X6_isChannel l dC dI cI cC cS H7.size p2) (va_cwS 1 hts gX6_send_X6_isChannel rfl rfl rfl (by decide +kernel) ⟨Nat.le_of_ble_eq_true rfl, Nat.le_of_ble_eq_true rfl⟩) (pS hK (va_P_nil) (va_D_nil) hN) rfl rfl hl.1 rfl (lv_room (Nat.le_of_ble_eq_true rfl)) dX6_send_13 ⟨Nat.le_of_ble_eq_true rfl, Nat.le_of_ble_eq_true rfl⟩) hS (fun q _ h => hFc q h) hFc (fun r_10 u_10 t_10 H11 locs ht hvm hw hB hz1 hk1 hS => ?_)
    obtain ⟨hw, hre12⟩ := hw
    subst hw
    have hP := ro_keep hP hk1
    refine lv_if_eq (tgt := 28) hx hb dX6_send_16 (by decide) (fun c13 => ?_) (fun c13 => ?_)
    · rw [if_pos c13] at hR
      refine lv_iconst (v := (-1)) hx hb dX6_send_28 (by decide) ?_
      exact W.iret (v := (-1)) hx hb hr (fun t ht hWw => ⟨⟨(-1), Rn2, rfl, ⟨hR.symm.trans eR, hI4, hs5⟩, by rw [ht]; exact hP, hD⟩, hS.F ht⟩) hS.2.2 dX6_send_29
    · rw [if_neg c13] at hR
      refine lv_iload_n hx hb dX6_send_19 rfl (lv_at hl 3 rfl) ?_
      refine lv_iconst (v := 0) hx hb dX6_send_20 (by decide) ?_
      refine lv_iconst (v := 1) hx hb dX6_send_21 (by decide) ?_
      have hFc : ∀ q : Nat, va_A [] H11.size q → (va_A (cMd a cI R) s.heap.size) q := roF hS hA
      refine va_calli (va_runS (As := [.int p3, .int 0, .int 1]) (rest := []) ⟨hx, hb, hml, hown, hts⟩ (c_X6_in l dC dI cI cC cS H11.size p3 0 1) (va_cwS 3 hts gX6_send_X6_in rfl rfl rfl (by decide +kernel) ⟨Nat.le_of_ble_eq_true rfl, Nat.le_of_ble_eq_true rfl⟩) (pS hK (va_P_nil) (va_D_nil) hN) rfl rfl hl.1 rfl (lv_room (Nat.le_of_ble_eq_true rfl)) dX6_send_22 ⟨Nat.le_of_ble_eq_true rfl, Nat.le_of_ble_eq_true rfl⟩) hS (fun q _ h => hFc q h) hFc (fun r_14 u_14 t_14 H15 locs ht hvm hw hB hz1 hk1 hS => ?_)
      obtain ⟨hw, hre16⟩ := hw
      subst hw
      have hP := ro_keep hP hk1
      refine lv_if_ne (tgt := 30) hx hb dX6_send_25 (by decide) (fun c17 => ?_) (fun c17 => ?_)
      · rw [if_neg c17] at hR
        refine lv_iload_n hx hb dX6_send_30 rfl (lv_at hl 3 rfl) ?_
        refine lv_if_ne (tgt := 43) hx hb dX6_send_31 (by decide) (fun c18 => ?_) (fun c18 => ?_)
        · rw [if_neg c18] at hR
          refine lv_aload_n hx hb dX6_send_43 rfl (lv_at hl 0 rfl) ?_
          refine lv_iload_n hx hb dX6_send_44 rfl (lv_at hl 1 rfl) ?_
          refine lv_iload_n hx hb dX6_send_45 rfl (lv_at hl 2 rfl) ?_
          have hPc : va_P (dC, dI) vwCl (cMd a cI Rn2) H15 := hP.sub [0, 1, 2, 3, 4, 5, 6] rfl
          have hDc : va_D (va_A (cMd a cI R) s.heap.size) (cMd a cI Rn2) := hD.sub [0, 1, 2, 3, 4, 5, 6] (by decide) rfl
          have hFc : ∀ q : Nat, va_A [] H15.size q → (va_A (cMd a cI R) s.heap.size) q := roF hS hA
          refine va_calli (va_runV (As := [.int p1, .int p2]) (rest := []) ⟨hx, hb, hml, hown, hts⟩ (c_X6_gain l dC dI cI cC cS a Rn2 H15.size p1 p2 (four_vp c9) (ch_vp c13)) (cwV 2 hts gX6_send_X6_gain rfl rfl rfl (by decide +kernel) ⟨Nat.le_of_ble_eq_true rfl, Nat.le_of_ble_eq_true rfl⟩) (pV (q0 := 0) hK hPc hDc hN rfl rfl) rfl rfl hl.1 rfl (lv_room (Nat.le_of_ble_eq_true rfl)) dX6_send_46 ⟨Nat.le_of_ble_eq_true rfl, Nat.le_of_ble_eq_true rfl⟩) hS (fun q _ h => hFc q h) hFc (fun r_19 u_19 t_19 H20 locs ht hvm hw hB hz1 hk1 hS => ?_)
          subst hw
          have hP := ro_keep hP hk1
          exact W.iret (v := f_X6_gain Rn2 p1 p2) hx hb hr (fun t ht hWw => ⟨⟨f_X6_gain Rn2 p1 p2, Rn2, rfl, ⟨hR.symm.trans eR, hI4, hs5⟩, by rw [ht]; exact hP, hD⟩, hS.F ht⟩) hS.2.2 dX6_send_49
        · rw [if_pos c18] at hR
          refine lv_aload_n hx hb dX6_send_34 rfl (lv_at hl 0 rfl) ?_
          refine lv_iload_n hx hb dX6_send_35 rfl (lv_at hl 1 rfl) ?_
          refine lv_iload_n hx hb dX6_send_36 rfl (lv_at hl 2 rfl) ?_
          have hPc : va_P (dC, dI) vwCl (cMd a cI Rn2) H15 := hP.sub [0, 1, 2, 3, 4, 5, 6] rfl
          have hDc : va_D (va_A (cMd a cI R) s.heap.size) (cMd a cI Rn2) := hD.sub [0, 1, 2, 3, 4, 5, 6] (by decide) rfl
          have hFc : ∀ q : Nat, va_A [] H15.size q → (va_A (cMd a cI R) s.heap.size) q := roF hS hA
          refine va_calli (va_runV (As := [.int p1, .int p2]) (rest := []) ⟨hx, hb, hml, hown, hts⟩ (c_X6_sendOf l dC dI cI cC cS a Rn2 H15.size p1 p2 (four_vp c9) (ch_vp c13)) (cwV 2 hts gX6_send_X6_sendOf rfl rfl rfl (by decide +kernel) ⟨Nat.le_of_ble_eq_true rfl, Nat.le_of_ble_eq_true rfl⟩) (pV (q0 := 0) hK hPc hDc hN rfl rfl) rfl rfl hl.1 rfl (lv_room (Nat.le_of_ble_eq_true rfl)) dX6_send_37 ⟨Nat.le_of_ble_eq_true rfl, Nat.le_of_ble_eq_true rfl⟩) hS (fun q _ h => hFc q h) hFc (fun r_21 u_21 t_21 H22 locs ht hvm hw hB hz1 hk1 hS => ?_)
          subst hw
          have hP := ro_keep hP hk1
          refine lv_goto (tgt := 49) hx hb dX6_send_40 (by decide) ?_
          exact W.iret (v := f_X6_sendOf Rn2 p1 p2) hx hb hr (fun t ht hWw => ⟨⟨f_X6_sendOf Rn2 p1 p2, Rn2, rfl, ⟨hR.symm.trans eR, hI4, hs5⟩, by rw [ht]; exact hP, hD⟩, hS.F ht⟩) hS.2.2 dX6_send_49
      · rw [if_pos c17] at hR
        refine lv_iconst (v := (-1)) hx hb dX6_send_28 (by decide) ?_
        exact W.iret (v := (-1)) hx hb hr (fun t ht hWw => ⟨⟨(-1), Rn2, rfl, ⟨hR.symm.trans eR, hI4, hs5⟩, by rw [ht]; exact hP, hD⟩, hS.F ht⟩) hS.2.2 dX6_send_29
abbrev rm_X6_scene : Room := { frames := 2, cells := 0, slots := 0, locals := 42 }
def f_X6_scene (R : SR) (p1 : Int32) (p2 : Int32) : Int32 × SR := sLet (sU R 6 0 0) (fun Rn2 : SR => (if (f_X6_isScene p1) = 0 then ((-1), Rn2) else (if (f_X6_in p2 0 16) = 0 then ((-1), Rn2) else (if (Rn2 0 (181 + (18 * p1)).toNatClampNeg) = 0 then ((-99), Rn2) else (Rn2 0 (((181 + (18 * p1)) + 1) + p2).toNatClampNeg, Rn2)))))
theorem ix_47 : ∀ q0 : Nat, q0 < 6 → ∀ q1 : Nat, q1 < 17 → vp_okB (((181 + (18 * (nI q0))) + 1) + (nI q1)) 289 = true := by decide +kernel
set_option maxHeartbeats 4000000 in
set_option maxRecDepth 100000 in
theorem c_X6_scene (l : Launch) (dC : Nat → ClassId) (dI : Nat → Nat → Nat) (cI cC cS : ClassId) (a : Nat → Nat) (R : SR) (sz : Nat) (p1 : Int32) (p2 : Int32) (ohv : vp_in (R 6 1) 6) (hI : RA R) (hs : RS R) : Met l yX6_scene wsX6_scene rm_X6_scene (PcG (dC, dI) (tyL cI cC cS) (cMd a cI R) sz [.ref (a 0), .int p1, .int p2]) (va_Qi (fun (r : Int32) (u : SR) => (r, u) = f_X6_scene R p1 p2 ∧ (RA u) ∧ (RS u)) (fun u U => va_P (dC, dI) vwCl (cMd a cI u) U.heap ∧ va_D (va_A (cMd a cI R) sz) (cMd a cI u)) (va_A (cMd a cI R) sz)) 0 0 (va_A (cMd a cI R) sz) := by
  refine Met.ofW (cc := cX6_scene) (maxL := 4) (ret := (some .int)) (by decide) rfl ?_
  intro p e s m args below meth c s₁ B hml hv
  obtain ⟨rfl, hsz, hP, hK, hD0, hN⟩ := hv
  have hx := B.exec
  have hb := B.bytes
  have hr := B.returns
  have hts := atoms_spec (ws := wsX6_scene) B.pre
  have hown : s.vm.findClass RX6 = some m.cls := findClass_of_methodNamed B.named
  have hlocks := B.notSynchronized
  subst hsz
  have hD := hD0.self (sz := s.heap.size)
  have hA : ∀ q : Nat, s.heap.size ≤ q → (va_A (cMd a cI R) s.heap.size) q := fun q h => Or.inr h
  have hS : va_S (va_A (cMd a cI R) s.heap.size) s.heap s.heap [] := va_S.rf
  have hin6 : ∀ w ∈ wsX60, w ∈ wsX6_scene := fun _ h => List.mem_cons_of_mem _ (List.mem_append_right _ h)
  have hl := lv_entry [.ref (a 0), .int p1, .int p2] (n := 4) (Nat.le_of_ble_eq_true rfl)
  rw [lg_entry_eq]
  generalize (lg_sl [.ref (a 0), .int p1, .int p2] ++ List.replicate (4 - (lg_sl [.ref (a 0), .int p1, .int p2]).length) Slot.unset).toArray = ls at hl ⊢
  have hl : lv_has ls 4 [(0, .ref (a 0)), (1, .int p1), (2, .int p2)] := hl
  obtain ⟨R0, eR⟩ : ∃ z, z = f_X6_scene R p1 p2 := ⟨_, rfl⟩
  have hR := eR
  rw [f_X6_scene] at hR
  refine lv_aload_n hx hb dX6_scene_0 rfl (lv_at hl 0 rfl) ?_
  refine lv_iconst (v := 0) hx hb dX6_scene_1 (by decide) ?_
  refine va_put (D := (dC, dI)) (ci := 6) (v := .int 0) (ty := .int) (C := RX6) (T := TX6) (N := 15) hx hb hts hin6 tyX6 tyX6_ok nmX6 hown hK hP hD hS 0 rfl rfl 0 (by decide) (hts (.fieldLink RX6 28 "FeedDeskModel" "thrown" "I") (List.mem_of_getElem? (i := 1) rfl)) (fun _ h9 => h9) rfl (by decide +kernel) rfl rfl (Nat.le_of_ble_eq_true rfl) dX6_scene_2 (fun H1 locs hP hD hS => ?_)
  have hP : va_P (dC, dI) vwCl (cMd a cI (sU R 6 0 0)) H1 := hP
  have hD : va_D (va_A (cMd a cI R) s.heap.size) (cMd a cI (sU R 6 0 0)) := hD
  obtain ⟨Rn2, eRn2⟩ : ∃ z : SR, z = sU R 6 0 0 := ⟨_, rfl⟩
  rw [sLet_eq, ← eRn2] at hR
  rw [← eRn2] at hP hD
  have ohv3 : vp_in (Rn2 6 1) 6 := (by rw [eRn2]; exact ohv)
  have hI4 : RA Rn2 := (by rw [eRn2]; exact hI)
  have hs5 : RS Rn2 := (by rw [eRn2]; exact hs)
  refine lv_iload_n hx hb dX6_scene_5 rfl (lv_at hl 1 rfl) ?_
  have hFc : ∀ q : Nat, va_A [] H1.size q → (va_A (cMd a cI R) s.heap.size) q := roF hS hA
  refine va_calli (va_runS (As := [.int p1]) (rest := []) ⟨hx, hb, hml, hown, hts⟩ (c_X6_isScene l dC dI cI cC cS H1.size p1) (va_cwS 1 hts gX6_scene_X6_isScene rfl rfl rfl (by decide +kernel) ⟨Nat.le_of_ble_eq_true rfl, Nat.le_of_ble_eq_true rfl⟩) (pS hK (va_P_nil) (va_D_nil) hN) rfl rfl hl.1 rfl (lv_room (Nat.le_of_ble_eq_true rfl)) dX6_scene_6 ⟨Nat.le_of_ble_eq_true rfl, Nat.le_of_ble_eq_true rfl⟩) hS (fun q _ h => hFc q h) hFc (fun r_6 u_6 t_6 H7 locs ht hvm hw hB hz1 hk1 hS => ?_)
  obtain ⟨hw, hre8⟩ := hw
  subst hw
  have hP := ro_keep hP hk1
  refine lv_if_eq (tgt := 22) hx hb dX6_scene_9 (by decide) (fun c9 => ?_) (fun c9 => ?_)
  · rw [if_pos c9] at hR
    refine lv_iconst (v := (-1)) hx hb dX6_scene_22 (by decide) ?_
    exact W.iret (v := (-1)) hx hb hr (fun t ht hWw => ⟨⟨(-1), Rn2, rfl, ⟨hR.symm.trans eR, hI4, hs5⟩, by rw [ht]; exact hP, hD⟩, hS.F ht⟩) hS.2.2 dX6_scene_23
  · rw [if_neg c9] at hR
    obtain ⟨ip1, hip1, ep1⟩ := vp_in_of (scene_vp c9) (by decide)
    refine lv_iload_n hx hb dX6_scene_12 rfl (lv_at hl 2 rfl) ?_
    refine lv_iconst (v := 0) hx hb dX6_scene_13 (by decide) ?_
    refine lv_bipush (v := 16) hx hb dX6_scene_14 (by decide) ?_
    have hFc : ∀ q : Nat, va_A [] H7.size q → (va_A (cMd a cI R) s.heap.size) q := roF hS hA
    refine va_calli (va_runS (As := [.int p2, .int 0, .int 16]) (rest := []) ⟨hx, hb, hml, hown, hts⟩ (c_X6_in l dC dI cI cC cS H7.size p2 0 16) (va_cwS 3 hts gX6_scene_X6_in rfl rfl rfl (by decide +kernel) ⟨Nat.le_of_ble_eq_true rfl, Nat.le_of_ble_eq_true rfl⟩) (pS hK (va_P_nil) (va_D_nil) hN) rfl rfl hl.1 rfl (lv_room (Nat.le_of_ble_eq_true rfl)) dX6_scene_16 ⟨Nat.le_of_ble_eq_true rfl, Nat.le_of_ble_eq_true rfl⟩) hS (fun q _ h => hFc q h) hFc (fun r_10 u_10 t_10 H11 locs ht hvm hw hB hz1 hk1 hS => ?_)
    obtain ⟨hw, hre12⟩ := hw
    subst hw
    have hP := ro_keep hP hk1
    refine lv_if_ne (tgt := 24) hx hb dX6_scene_19 (by decide) (fun c13 => ?_) (fun c13 => ?_)
    · rw [if_neg c13] at hR
      obtain ⟨ip2, hip2, ep2⟩ := vp_in_of (in_vp (n := 16) c13 (by decide)) (by decide)
      refine lv_sipush (v := 181) hx hb dX6_scene_24 (by decide) ?_
      refine lv_bipush (v := 18) hx hb dX6_scene_27 (by decide) ?_
      refine lv_iload_n hx hb dX6_scene_29 rfl (lv_at hl 1 rfl) ?_
      refine lv_imul hx hb dX6_scene_30 ?_
      refine lv_iadd hx hb dX6_scene_31 ?_
      refine lv_istore_n (lv' := [(3, .int (181 + (18 * p1))), (0, .ref (a 0)), (1, .int p1), (2, .int p2)]) hx hb dX6_scene_32 rfl hl (by decide) rfl (fun ls hl => ?_)
      refine lv_aload_n hx hb dX6_scene_33 rfl (lv_at hl 1 rfl) ?_
      refine va_get (D := (dC, dI)) (ci := 6) (v := .ref (a 1)) (C := RX6) (T := TX6) (N := 15) hx hb hts hin6 hown hK hP 0 rfl rfl 1 (by decide) (hts (.fieldLink RX6 7 "FeedDeskModel" "s" "[I") (List.mem_of_getElem? (i := 2) rfl)) (fun _ h9 => h9) rfl dX6_scene_34 ?_
      refine lv_iload_n hx hb dX6_scene_37 rfl (lv_at hl 0 rfl) ?_
      refine va_iald (f := Rn2 0) hx hb hK hP 1 0 rfl rfl (by rw [ep1]; exact vp_of_B (ix_17 ip1 hip1)) dX6_scene_38 ?_
      refine lv_if_ne (tgt := 47) hx hb dX6_scene_39 (by decide) (fun c14 => ?_) (fun c14 => ?_)
      · rw [if_neg c14] at hR
        refine lv_aload_n hx hb dX6_scene_47 rfl (lv_at hl 1 rfl) ?_
        refine va_get (D := (dC, dI)) (ci := 6) (v := .ref (a 1)) (C := RX6) (T := TX6) (N := 15) hx hb hts hin6 hown hK hP 0 rfl rfl 1 (by decide) (hts (.fieldLink RX6 7 "FeedDeskModel" "s" "[I") (List.mem_of_getElem? (i := 2) rfl)) (fun _ h9 => h9) rfl dX6_scene_48 ?_
        refine lv_iload_n hx hb dX6_scene_51 rfl (lv_at hl 0 rfl) ?_
        refine lv_iconst (v := 1) hx hb dX6_scene_52 (by decide) ?_
        refine lv_iadd hx hb dX6_scene_53 ?_
        refine lv_iload_n hx hb dX6_scene_54 rfl (lv_at hl 3 rfl) ?_
        refine lv_iadd hx hb dX6_scene_55 ?_
        refine va_iald (f := Rn2 0) hx hb hK hP 1 0 rfl rfl (by rw [ep1, ep2]; exact vp_of_B (ix_47 ip1 hip1 ip2 hip2)) dX6_scene_56 ?_
        exact W.iret (v := Rn2 0 (((181 + (18 * p1)) + 1) + p2).toNatClampNeg) hx hb hr (fun t ht hWw => ⟨⟨Rn2 0 (((181 + (18 * p1)) + 1) + p2).toNatClampNeg, Rn2, rfl, ⟨hR.symm.trans eR, hI4, hs5⟩, by rw [ht]; exact hP, hD⟩, hS.F ht⟩) hS.2.2 dX6_scene_57
      · rw [if_pos c14] at hR
        refine lv_bipush (v := (-99)) hx hb dX6_scene_42 (by decide) ?_
        refine lv_goto (tgt := 57) hx hb dX6_scene_44 (by decide) ?_
        exact W.iret (v := (-99)) hx hb hr (fun t ht hWw => ⟨⟨(-99), Rn2, rfl, ⟨hR.symm.trans eR, hI4, hs5⟩, by rw [ht]; exact hP, hD⟩, hS.F ht⟩) hS.2.2 dX6_scene_57
    · rw [if_pos c13] at hR
      refine lv_iconst (v := (-1)) hx hb dX6_scene_22 (by decide) ?_
      exact W.iret (v := (-1)) hx hb hr (fun t ht hWw => ⟨⟨(-1), Rn2, rfl, ⟨hR.symm.trans eR, hI4, hs5⟩, by rw [ht]; exact hP, hD⟩, hS.F ht⟩) hS.2.2 dX6_scene_23
abbrev rm_X6_why : Room := { frames := 3, cells := 0, slots := 0, locals := 66 }
def f_X6_why (R : SR) (p1 : Int32) : Int32 × SR := sLet (sU R 6 0 0) (fun Rn2 : SR => (if (f_X6_isChannel p1) = 0 then ((-1), Rn2) else (if (f_X6_level Rn2 p1) ≤ 0 then (if (f_X6_of Rn2 p1 2) = 1 then (1, Rn2) else (if (f_X6_isShut Rn2 p1) = 0 then (if (f_X6_of Rn2 p1 1) = 0 then (3, Rn2) else (4, Rn2)) else (2, Rn2))) else (0, Rn2))))
set_option maxHeartbeats 4000000 in
set_option maxRecDepth 100000 in
theorem c_X6_why (l : Launch) (dC : Nat → ClassId) (dI : Nat → Nat → Nat) (cI cC cS : ClassId) (a : Nat → Nat) (R : SR) (sz : Nat) (p1 : Int32) (ohv : vp_in (R 6 1) 6) (hI : RA R) (hs : RS R) : Met l yX6_why wsX6_why rm_X6_why (PcG (dC, dI) (tyL cI cC cS) (cMd a cI R) sz [.ref (a 0), .int p1]) (va_Qi (fun (r : Int32) (u : SR) => (r, u) = f_X6_why R p1 ∧ (RA u) ∧ (RS u)) (fun u U => va_P (dC, dI) vwCl (cMd a cI u) U.heap ∧ va_D (va_A (cMd a cI R) sz) (cMd a cI u)) (va_A (cMd a cI R) sz)) 0 0 (va_A (cMd a cI R) sz) := by
  refine Met.ofW (cc := cX6_why) (maxL := 2) (ret := (some .int)) (by decide) rfl ?_
  intro p e s m args below meth c s₁ B hml hv
  obtain ⟨rfl, hsz, hP, hK, hD0, hN⟩ := hv
  have hx := B.exec
  have hb := B.bytes
  have hr := B.returns
  have hts := atoms_spec (ws := wsX6_why) B.pre
  have hown : s.vm.findClass RX6 = some m.cls := findClass_of_methodNamed B.named
  have hlocks := B.notSynchronized
  subst hsz
  have hD := hD0.self (sz := s.heap.size)
  have hA : ∀ q : Nat, s.heap.size ≤ q → (va_A (cMd a cI R) s.heap.size) q := fun q h => Or.inr h
  have hS : va_S (va_A (cMd a cI R) s.heap.size) s.heap s.heap [] := va_S.rf
  have hin6 : ∀ w ∈ wsX60, w ∈ wsX6_why := fun _ h => List.mem_cons_of_mem _ (List.mem_append_right _ h)
  have hl := lv_entry [.ref (a 0), .int p1] (n := 2) (Nat.le_of_ble_eq_true rfl)
  rw [lg_entry_eq]
  generalize (lg_sl [.ref (a 0), .int p1] ++ List.replicate (2 - (lg_sl [.ref (a 0), .int p1]).length) Slot.unset).toArray = ls at hl ⊢
  have hl : lv_has ls 2 [(0, .ref (a 0)), (1, .int p1)] := hl
  obtain ⟨R0, eR⟩ : ∃ z, z = f_X6_why R p1 := ⟨_, rfl⟩
  have hR := eR
  rw [f_X6_why] at hR
  refine lv_aload_n hx hb dX6_why_0 rfl (lv_at hl 0 rfl) ?_
  refine lv_iconst (v := 0) hx hb dX6_why_1 (by decide) ?_
  refine va_put (D := (dC, dI)) (ci := 6) (v := .int 0) (ty := .int) (C := RX6) (T := TX6) (N := 15) hx hb hts hin6 tyX6 tyX6_ok nmX6 hown hK hP hD hS 0 rfl rfl 0 (by decide) (hts (.fieldLink RX6 28 "FeedDeskModel" "thrown" "I") (List.mem_of_getElem? (i := 1) rfl)) (fun _ h9 => h9) rfl (by decide +kernel) rfl rfl (Nat.le_of_ble_eq_true rfl) dX6_why_2 (fun H1 locs hP hD hS => ?_)
  have hP : va_P (dC, dI) vwCl (cMd a cI (sU R 6 0 0)) H1 := hP
  have hD : va_D (va_A (cMd a cI R) s.heap.size) (cMd a cI (sU R 6 0 0)) := hD
  obtain ⟨Rn2, eRn2⟩ : ∃ z : SR, z = sU R 6 0 0 := ⟨_, rfl⟩
  rw [sLet_eq, ← eRn2] at hR
  rw [← eRn2] at hP hD
  have ohv3 : vp_in (Rn2 6 1) 6 := (by rw [eRn2]; exact ohv)
  have hI4 : RA Rn2 := (by rw [eRn2]; exact hI)
  have hs5 : RS Rn2 := (by rw [eRn2]; exact hs)
  refine lv_iload_n hx hb dX6_why_5 rfl (lv_at hl 1 rfl) ?_
  have hFc : ∀ q : Nat, va_A [] H1.size q → (va_A (cMd a cI R) s.heap.size) q := roF hS hA
  refine va_calli (va_runS (As := [.int p1]) (rest := []) ⟨hx, hb, hml, hown, hts⟩ (c_X6_isChannel l dC dI cI cC cS H1.size p1) (va_cwS 1 hts gX6_why_X6_isChannel rfl rfl rfl (by decide +kernel) ⟨Nat.le_of_ble_eq_true rfl, Nat.le_of_ble_eq_true rfl⟩) (pS hK (va_P_nil) (va_D_nil) hN) rfl rfl hl.1 rfl (lv_room (Nat.le_of_ble_eq_true rfl)) dX6_why_6 ⟨Nat.le_of_ble_eq_true rfl, Nat.le_of_ble_eq_true rfl⟩) hS (fun q _ h => hFc q h) hFc (fun r_6 u_6 t_6 H7 locs ht hvm hw hB hz1 hk1 hS => ?_)
  obtain ⟨hw, hre8⟩ := hw
  subst hw
  have hP := ro_keep hP hk1
  refine lv_if_ne (tgt := 14) hx hb dX6_why_9 (by decide) (fun c9 => ?_) (fun c9 => ?_)
  · rw [if_neg c9] at hR
    refine lv_aload_n hx hb dX6_why_14 rfl (lv_at hl 0 rfl) ?_
    refine lv_iload_n hx hb dX6_why_15 rfl (lv_at hl 1 rfl) ?_
    have hPc : va_P (dC, dI) vwCl (cMd a cI Rn2) H7 := hP.sub [0, 1, 2, 3, 4, 5, 6] rfl
    have hDc : va_D (va_A (cMd a cI R) s.heap.size) (cMd a cI Rn2) := hD.sub [0, 1, 2, 3, 4, 5, 6] (by decide) rfl
    have hFc : ∀ q : Nat, va_A [] H7.size q → (va_A (cMd a cI R) s.heap.size) q := roF hS hA
    refine va_calli (va_runV (As := [.int p1]) (rest := []) ⟨hx, hb, hml, hown, hts⟩ (c_X6_level l dC dI cI cC cS a Rn2 H7.size p1 (ch_vp c9)) (cwV 1 hts gX6_why_X6_level rfl rfl rfl (by decide +kernel) ⟨Nat.le_of_ble_eq_true rfl, Nat.le_of_ble_eq_true rfl⟩) (pV (q0 := 0) hK hPc hDc hN rfl rfl) rfl rfl hl.1 rfl (lv_room (Nat.le_of_ble_eq_true rfl)) dX6_why_16 ⟨Nat.le_of_ble_eq_true rfl, Nat.le_of_ble_eq_true rfl⟩) hS (fun q _ h => hFc q h) hFc (fun r_10 u_10 t_10 H11 locs ht hvm hw hB hz1 hk1 hS => ?_)
    subst hw
    have hP := ro_keep hP hk1
    refine lv_if_le (tgt := 24) hx hb dX6_why_19 (by decide) (fun c12 => ?_) (fun c12 => ?_)
    · rw [if_pos c12] at hR
      refine lv_aload_n hx hb dX6_why_24 rfl (lv_at hl 0 rfl) ?_
      refine lv_iload_n hx hb dX6_why_25 rfl (lv_at hl 1 rfl) ?_
      refine lv_iconst (v := 2) hx hb dX6_why_26 (by decide) ?_
      have hPc : va_P (dC, dI) vwCl (cMd a cI Rn2) H11 := hP.sub [0, 1, 2, 3, 4, 5, 6] rfl
      have hDc : va_D (va_A (cMd a cI R) s.heap.size) (cMd a cI Rn2) := hD.sub [0, 1, 2, 3, 4, 5, 6] (by decide) rfl
      have hFc : ∀ q : Nat, va_A [] H11.size q → (va_A (cMd a cI R) s.heap.size) q := roF hS hA
      refine va_calli (va_runV (As := [.int p1, .int 2]) (rest := []) ⟨hx, hb, hml, hown, hts⟩ (c_X6_of l dC dI cI cC cS a Rn2 H11.size p1 2 (ch_vp c9) (vp_of_B (by decide +kernel : vp_okB (2) 5 = true))) (cwV 2 hts gX6_why_X6_of rfl rfl rfl (by decide +kernel) ⟨Nat.le_of_ble_eq_true rfl, Nat.le_of_ble_eq_true rfl⟩) (pV (q0 := 0) hK hPc hDc hN rfl rfl) rfl rfl hl.1 rfl (lv_room (Nat.le_of_ble_eq_true rfl)) dX6_why_27 ⟨Nat.le_of_ble_eq_true rfl, Nat.le_of_ble_eq_true rfl⟩) hS (fun q _ h => hFc q h) hFc (fun r_13 u_13 t_13 H14 locs ht hvm hw hB hz1 hk1 hS => ?_)
      subst hw
      have hP := ro_keep hP hk1
      refine lv_iconst (v := 1) hx hb dX6_why_30 (by decide) ?_
      refine lv_icmp_ne (tgt := 38) hx hb dX6_why_31 (by decide) (fun c15 => ?_) (fun c15 => ?_)
      · rw [if_neg c15] at hR
        refine lv_aload_n hx hb dX6_why_38 rfl (lv_at hl 0 rfl) ?_
        refine lv_iload_n hx hb dX6_why_39 rfl (lv_at hl 1 rfl) ?_
        have hPc : va_P (dC, dI) vwCl (cMd a cI Rn2) H14 := hP.sub [0, 1, 2, 3, 4, 5, 6] rfl
        have hDc : va_D (va_A (cMd a cI R) s.heap.size) (cMd a cI Rn2) := hD.sub [0, 1, 2, 3, 4, 5, 6] (by decide) rfl
        have hFc : ∀ q : Nat, va_A [] H14.size q → (va_A (cMd a cI R) s.heap.size) q := roF hS hA
        refine va_calli (va_runV (As := [.int p1]) (rest := []) ⟨hx, hb, hml, hown, hts⟩ (c_X6_isShut l dC dI cI cC cS a Rn2 H14.size p1 (ch_vp c9)) (cwV 1 hts gX6_why_X6_isShut rfl rfl rfl (by decide +kernel) ⟨Nat.le_of_ble_eq_true rfl, Nat.le_of_ble_eq_true rfl⟩) (pV (q0 := 0) hK hPc hDc hN rfl rfl) rfl rfl hl.1 rfl (lv_room (Nat.le_of_ble_eq_true rfl)) dX6_why_40 ⟨Nat.le_of_ble_eq_true rfl, Nat.le_of_ble_eq_true rfl⟩) hS (fun q _ h => hFc q h) hFc (fun r_16 u_16 t_16 H17 locs ht hvm hw hB hz1 hk1 hS => ?_)
        obtain ⟨hw, hre18⟩ := hw
        subst hw
        have hP := ro_keep hP hk1
        refine lv_if_eq (tgt := 50) hx hb dX6_why_43 (by decide) (fun c19 => ?_) (fun c19 => ?_)
        · rw [if_pos c19] at hR
          refine lv_aload_n hx hb dX6_why_50 rfl (lv_at hl 0 rfl) ?_
          refine lv_iload_n hx hb dX6_why_51 rfl (lv_at hl 1 rfl) ?_
          refine lv_iconst (v := 1) hx hb dX6_why_52 (by decide) ?_
          have hPc : va_P (dC, dI) vwCl (cMd a cI Rn2) H17 := hP.sub [0, 1, 2, 3, 4, 5, 6] rfl
          have hDc : va_D (va_A (cMd a cI R) s.heap.size) (cMd a cI Rn2) := hD.sub [0, 1, 2, 3, 4, 5, 6] (by decide) rfl
          have hFc : ∀ q : Nat, va_A [] H17.size q → (va_A (cMd a cI R) s.heap.size) q := roF hS hA
          refine va_calli (va_runV (As := [.int p1, .int 1]) (rest := []) ⟨hx, hb, hml, hown, hts⟩ (c_X6_of l dC dI cI cC cS a Rn2 H17.size p1 1 (ch_vp c9) (vp_of_B (by decide +kernel : vp_okB (1) 5 = true))) (cwV 2 hts gX6_why_X6_of rfl rfl rfl (by decide +kernel) ⟨Nat.le_of_ble_eq_true rfl, Nat.le_of_ble_eq_true rfl⟩) (pV (q0 := 0) hK hPc hDc hN rfl rfl) rfl rfl hl.1 rfl (lv_room (Nat.le_of_ble_eq_true rfl)) dX6_why_53 ⟨Nat.le_of_ble_eq_true rfl, Nat.le_of_ble_eq_true rfl⟩) hS (fun q _ h => hFc q h) hFc (fun r_20 u_20 t_20 H21 locs ht hvm hw hB hz1 hk1 hS => ?_)
          subst hw
          have hP := ro_keep hP hk1
          refine lv_if_ne (tgt := 63) hx hb dX6_why_56 (by decide) (fun c22 => ?_) (fun c22 => ?_)
          · rw [if_neg c22] at hR
            refine lv_iconst (v := 4) hx hb dX6_why_63 (by decide) ?_
            exact W.iret (v := 4) hx hb hr (fun t ht hWw => ⟨⟨4, Rn2, rfl, ⟨hR.symm.trans eR, hI4, hs5⟩, by rw [ht]; exact hP, hD⟩, hS.F ht⟩) hS.2.2 dX6_why_64
          · rw [if_pos c22] at hR
            refine lv_iconst (v := 3) hx hb dX6_why_59 (by decide) ?_
            refine lv_goto (tgt := 64) hx hb dX6_why_60 (by decide) ?_
            exact W.iret (v := 3) hx hb hr (fun t ht hWw => ⟨⟨3, Rn2, rfl, ⟨hR.symm.trans eR, hI4, hs5⟩, by rw [ht]; exact hP, hD⟩, hS.F ht⟩) hS.2.2 dX6_why_64
        · rw [if_neg c19] at hR
          refine lv_iconst (v := 2) hx hb dX6_why_46 (by decide) ?_
          refine lv_goto (tgt := 64) hx hb dX6_why_47 (by decide) ?_
          exact W.iret (v := 2) hx hb hr (fun t ht hWw => ⟨⟨2, Rn2, rfl, ⟨hR.symm.trans eR, hI4, hs5⟩, by rw [ht]; exact hP, hD⟩, hS.F ht⟩) hS.2.2 dX6_why_64
      · rw [if_pos c15] at hR
        refine lv_iconst (v := 1) hx hb dX6_why_34 (by decide) ?_
        refine lv_goto (tgt := 64) hx hb dX6_why_35 (by decide) ?_
        exact W.iret (v := 1) hx hb hr (fun t ht hWw => ⟨⟨1, Rn2, rfl, ⟨hR.symm.trans eR, hI4, hs5⟩, by rw [ht]; exact hP, hD⟩, hS.F ht⟩) hS.2.2 dX6_why_64
    · rw [if_neg c12] at hR
      refine lv_iconst (v := 0) hx hb dX6_why_22 (by decide) ?_
      exact W.iret (v := 0) hx hb hr (fun t ht hWw => ⟨⟨0, Rn2, rfl, ⟨hR.symm.trans eR, hI4, hs5⟩, by rw [ht]; exact hP, hD⟩, hS.F ht⟩) hS.2.2 dX6_why_23
  · rw [if_pos c9] at hR
    refine lv_iconst (v := (-1)) hx hb dX6_why_12 (by decide) ?_
    exact W.iret (v := (-1)) hx hb hr (fun t ht hWw => ⟨⟨(-1), Rn2, rfl, ⟨hR.symm.trans eR, hI4, hs5⟩, by rw [ht]; exact hP, hD⟩, hS.F ht⟩) hS.2.2 dX6_why_13
