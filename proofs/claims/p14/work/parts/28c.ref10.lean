abbrev rm_X6_load : Room := { frames := 5, cells := 0, slots := 0, locals := 114 }
def f_X6_load_p40   (x1_40 : Int32) (x2_40 : Int32)  (R_40 : SR) : Int32 × SR := sLet ((f_X6_exchange R_40)) (fun Rn44 : SR => (if x2_40 = 0 then ((-1000) - (Rn44 6 3), Rn44) else sLet ((f_X6_act Rn44)) (fun Rn59 : SR => sLet ((f_X6_exchange Rn59)) (fun Rn73 : SR => sLet (sU Rn73 6 2 0) (fun Rn82 : SR => (x1_40, Rn82))))))
def f_X6_load_p18   : Nat → Int32 → Int32 → SR → (Int32 × SR)
  | 0, _, _, R_18 => (0, R_18)
  | n_18 + 1, x1_18, x2_18, R_18 => (if x2_18 = 0 then f_X6_load_p40 x1_18 x2_18 R_18 else sLet ((f_X6_here R_18).2) (fun Rn98 : SR => (if ((f_X6_here R_18).1) < 0 then f_X6_load_p40 x1_18 x2_18 Rn98 else sLet ((f_X6_readsItem Rn98).2) (fun Rn120 : SR => (f_X6_load_p18 n_18) (x1_18 + 1) ((f_X6_readsItem Rn98).1) Rn120))))
def f_X6_load (R : SR)  : Int32 × SR := sLet (sU R 6 0 0) (fun Rn2 : SR => sLet ((f_X6_hold Rn2)) (fun Rn17 : SR => sLet (sU Rn17 6 3 0) (fun Rn29 : SR => f_X6_load_p18 144 0 1 Rn29)))
set_option maxHeartbeats 4000000 in
set_option maxRecDepth 100000 in
theorem c_X6_load (l : Launch) (dC : Nat → ClassId) (dI : Nat → Nat → Nat) (cI cC cS : ClassId) (a : Nat → Nat) (R : SR) (sz : Nat)  (ovv : vp_in (R 6 1) 6) (hI : RA R) (hs : RS R) (ohg : vp_in (R 6 2) 141) : Met l yX6_load wsX6_load rm_X6_load (PcG (dC, dI) (tyL cI cC cS) (cMd a cI R) sz [.ref (a 0)]) (va_Qi (fun (r : Int32) (u : SR) => (r, u) = f_X6_load R ∧ (RA u) ∧ (RS u)) (fun u U => va_P (dC, dI) vwCl (cMd a cI u) U.heap ∧ va_D (va_A (cMd a cI R) sz) (cMd a cI u)) (va_A (cMd a cI R) sz)) 0 0 (va_A (cMd a cI R) sz) := by
  refine Met.ofW (cc := cX6_load) (maxL := 3) (ret := (some .int)) (by decide) rfl ?_
  intro p e s m args below meth c s₁ B hml hv
  obtain ⟨rfl, hsz, hP, hK, hD0, hN⟩ := hv
  have hx := B.exec
  have hb := B.bytes
  have hr := B.returns
  have hts := atoms_spec (ws := wsX6_load) B.pre
  have hown : s.vm.findClass RX6 = some m.cls := findClass_of_methodNamed B.named
  have hlocks := B.notSynchronized
  subst hsz
  have hD := hD0.self (sz := s.heap.size)
  have hA : ∀ q : Nat, s.heap.size ≤ q → (va_A (cMd a cI R) s.heap.size) q := fun q h => Or.inr h
  have hS : va_S (va_A (cMd a cI R) s.heap.size) s.heap s.heap [] := va_S.rf
  have hin6 : ∀ w ∈ wsX60, w ∈ wsX6_load := fun _ h => List.mem_cons_of_mem _ (List.mem_append_right _ h)
  have hl := lv_entry [.ref (a 0)] (n := 3) (Nat.le_of_ble_eq_true rfl)
  rw [lg_entry_eq]
  generalize (lg_sl [.ref (a 0)] ++ List.replicate (3 - (lg_sl [.ref (a 0)]).length) Slot.unset).toArray = ls at hl ⊢
  have hl : lv_has ls 3 [(0, .ref (a 0))] := hl
  obtain ⟨R0, eR⟩ : ∃ z, z = f_X6_load R := ⟨_, rfl⟩
  have hR := eR
  rw [f_X6_load] at hR
  refine lv_aload_n hx hb dX6_load_0 rfl (lv_at hl 0 rfl) ?_
  refine lv_iconst (v := 0) hx hb dX6_load_1 (by decide) ?_
  refine va_put (D := (dC, dI)) (ci := 6) (v := .int 0) (ty := .int) (C := RX6) (T := TX6) (N := 15) hx hb hts hin6 tyX6 tyX6_ok nmX6 hown hK hP hD hS 0 rfl rfl 0 (by decide) (hts (.fieldLink RX6 28 "FeedDeskModel" "thrown" "I") (List.mem_of_getElem? (i := 1) rfl)) (fun _ h9 => h9) rfl (by decide +kernel) rfl rfl (Nat.le_of_ble_eq_true rfl) dX6_load_2 (fun H1 locs hP hD hS => ?_)
  have hP : va_P (dC, dI) vwCl (cMd a cI (sU R 6 0 0)) H1 := hP
  have hD : va_D (va_A (cMd a cI R) s.heap.size) (cMd a cI (sU R 6 0 0)) := hD
  obtain ⟨Rn2, eRn2⟩ : ∃ z : SR, z = sU R 6 0 0 := ⟨_, rfl⟩
  rw [sLet_eq, ← eRn2] at hR
  rw [← eRn2] at hP hD
  have hI3 : RA Rn2 := (by rw [eRn2]; exact hI)
  have hs4 : RS Rn2 := (by rw [eRn2]; exact hs)
  have ovv5 : vp_in (Rn2 6 1) 6 := (by rw [eRn2]; exact ovv)
  have ohg9 : vp_in (Rn2 6 2) 141 := (by rw [eRn2]; exact ohg)
  refine lv_aload_n hx hb dX6_load_5 rfl (lv_at hl 0 rfl) ?_
  have hPc : va_P (dC, dI) vwCl (cMd a cI Rn2) H1 := hP.sub [0, 1, 2, 3, 4, 5, 6] rfl
  have hDc : va_D (va_A (cMd a cI R) s.heap.size) (cMd a cI Rn2) := hD.sub [0, 1, 2, 3, 4, 5, 6] (by decide) rfl
  have hFc : ∀ q : Nat, va_A (cMd a cI Rn2) H1.size q → (va_A (cMd a cI R) s.heap.size) q := va_free hD hS hA [0, 1, 2, 3, 4, 5, 6] rfl
  refine va_callv (va_runV (As := []) (rest := []) ⟨hx, hb, hml, hown, hts⟩ (c_X6_hold l dC dI cI cC cS a Rn2 H1.size) (cwV 0 hts gX6_load_X6_hold rfl rfl rfl (by decide +kernel) ⟨Nat.le_of_ble_eq_true rfl, Nat.le_of_ble_eq_true rfl⟩) (pV (q0 := 0) hK hPc hDc hN rfl rfl) rfl rfl hl.1 rfl (lv_room (Nat.le_of_ble_eq_true rfl)) dX6_load_6 ⟨Nat.le_of_ble_eq_true rfl, Nat.le_of_ble_eq_true rfl⟩) hS (fun q _ h => hFc q h) hFc (fun u_10 t_10 H11 locs ht hvm hw hB hz1 hk1 hS => ?_)
  obtain ⟨hw, hens12, hens13, hens14, hens15, hens16⟩ := hw
  obtain ⟨hP1, hD1⟩ := hB
  rw [ht] at hP1
  subst hw
  obtain ⟨hP, hD⟩ := va_join (wc := cMd a cI Rn2) (wr := []) (w1 := cMd a cI (f_X6_hold Rn2)) hP hD [0, 1, 2, 3, 4, 5, 6] [] rfl rfl (by decide) (by decide) hk1 hFc hP1 hD1
  have hP : va_P (dC, dI) vwCl (cMd a cI (f_X6_hold Rn2)) H11 := hP.sub [0, 1, 2, 3, 4, 5, 6] rfl
  have hD : va_D (va_A (cMd a cI R) s.heap.size) (cMd a cI (f_X6_hold Rn2)) := hD.sub [0, 1, 2, 3, 4, 5, 6] (by decide) rfl
  obtain ⟨Rn17, eRn17⟩ : ∃ z : SR, z = (f_X6_hold Rn2) := ⟨_, rfl⟩
  rw [sLet_eq, ← eRn17] at hR
  rw [← eRn17] at hP hD
  have hI18 : RA Rn17 := (by rw [eRn17]; exact ra_eq hI3 hens12)
  have hs19 : RS Rn17 := (by rw [eRn17]; exact rs_eq0 hs4 hens12)
  have ovv20 : vp_in (Rn17 6 1) 6 := (by rw [eRn17, hens15]; exact ovv5)
  have o125 : RA1 Rn17 := by rw [eRn17]; exact ra1_hold hI3
  have o126 : RS1 Rn17 := by rw [eRn17]; exact rs1_hold hs4
  have ohg27 : vp_in (Rn17 6 2) 141 := by rw [eRn17, hens16]; exact ohg9
  refine lv_aload_n hx hb dX6_load_9 rfl (lv_at hl 0 rfl) ?_
  refine lv_iconst (v := 0) hx hb dX6_load_10 (by decide) ?_
  refine va_put (D := (dC, dI)) (ci := 6) (v := .int 0) (ty := .int) (C := RX6) (T := TX6) (N := 15) hx hb hts hin6 tyX6 tyX6_ok nmX6 hown hK hP hD hS 0 rfl rfl 7 (by decide) (hts (.fieldLink RX6 125 "FeedDeskModel" "next" "I") (List.mem_of_getElem? (i := 2) rfl)) (fun _ h9 => h9) rfl (by decide +kernel) rfl rfl (Nat.le_of_ble_eq_true rfl) dX6_load_11 (fun H28 locs hP hD hS => ?_)
  have hP : va_P (dC, dI) vwCl (cMd a cI (sU Rn17 6 3 0)) H28 := hP
  have hD : va_D (va_A (cMd a cI R) s.heap.size) (cMd a cI (sU Rn17 6 3 0)) := hD
  obtain ⟨Rn29, eRn29⟩ : ∃ z : SR, z = sU Rn17 6 3 0 := ⟨_, rfl⟩
  rw [sLet_eq, ← eRn29] at hR
  rw [← eRn29] at hP hD
  have hI30 : RA Rn29 := (by rw [eRn29]; exact hI18)
  have hs31 : RS Rn29 := (by rw [eRn29]; exact hs19)
  have ovv32 : vp_in (Rn29 6 1) 6 := (by rw [eRn29]; exact ovv20)
  have o1a33 : RA1 Rn29 := (by rw [eRn29]; exact o125)
  have o1s34 : RS1 Rn29 := (by rw [eRn29]; exact o126)
  have ohg36 : vp_in (Rn29 6 2) 141 := (by rw [eRn29]; exact ohg27)
  have ht37 : WFT Rn29 := by rw [eRn29]; exact wft_zero ohg27
  refine lv_iconst (v := 0) hx hb dX6_load_14 (by decide) ?_
  refine lv_istore_n (lv' := [(1, .int 0), (0, .ref (a 0))]) hx hb dX6_load_15 rfl hl (by decide) rfl (fun ls hl => ?_)
  refine lv_iconst (v := 1) hx hb dX6_load_16 (by decide) ?_
  refine lv_istore_n (lv' := [(2, .int 1), (1, .int 0), (0, .ref (a 0))]) hx hb dX6_load_17 rfl hl (by decide) rfl (fun ls hl => ?_)
  have hL_18 : ∀ n_18 : Nat,  ∀ (x1_18 : Int32) (x2_18 : Int32) (R_18 : SR), RQ x2_18 R_18 n_18 → RA R_18 → RS R_18 → vp_in (R_18 6 1) 6 → RA1 R_18 → RS1 R_18 → WFT R_18 → R0 = f_X6_load_p18 n_18 x1_18 x2_18 R_18 → ∀ (H : Heap) (locs : List Loc) (ls : Array Slot), va_P (dC, dI) vwCl (cMd a cI R_18) H → va_D (va_A (cMd a cI R) s.heap.size) (cMd a cI R_18) → va_S (va_A (cMd a cI R) s.heap.size) s.heap H locs → lv_has ls 3 [(0, .ref (a 0)), (1, .int x1_18), (2, .int x2_18)] → W p l e (headSpec wsX6_load rm_X6_load).room s m ([.ref (a 0)] : List Value).toArray below meth c H locs 0 0 (MQ below (va_Qi (fun (r : Int32) (u : SR) => (r, u) = f_X6_load R ∧ (RA u) ∧ (RS u)) (fun u U => va_P (dC, dI) vwCl (cMd a cI u) U.heap ∧ va_D (va_A (cMd a cI R) s.heap.size) (cMd a cI u)) (va_A (cMd a cI R) s.heap.size)) ([.ref (a 0)] : List Value).toArray s 0 0 (va_A (cMd a cI R) s.heap.size)) (F0 m 18 ls []) := by
    intro n_18
    induction n_18 with
    | zero =>
      intro  x1_18 x2_18 R_18 hq_18 hI_18 hs_18 ovv_18 o1a_18 o1s_18 oht_18
      exact (rq_0 hq_18).elim
    | succ n_18 ih_18 =>
      intro  x1_18 x2_18 R_18 hq_18 hI_18 hs_18 ovv_18 o1a_18 o1s_18 oht_18 hR H locs ls hP hD hS hl
      rw [f_X6_load_p18] at hR
      refine lv_iload_n hx hb dX6_load_18 rfl (lv_at hl 2 rfl) ?_
      have hJ_40 : ∀ (x1_40 : Int32) (x2_40 : Int32)  (R_40 : SR), RA R_40 → RS R_40 → vp_in (R_40 6 1) 6 → RA1 R_40 → RS1 R_40 → R0 = f_X6_load_p40 x1_40 x2_40 R_40 → ∀ (H : Heap) (locs : List Loc) (ls : Array Slot), va_P (dC, dI) vwCl (cMd a cI R_40) H → va_D (va_A (cMd a cI R) s.heap.size) (cMd a cI R_40) → va_S (va_A (cMd a cI R) s.heap.size) s.heap H locs → lv_has ls 3 [(0, .ref (a 0)), (1, .int x1_40), (2, .int x2_40)] → W p l e (headSpec wsX6_load rm_X6_load).room s m ([.ref (a 0)] : List Value).toArray below meth c H locs 0 0 (MQ below (va_Qi (fun (r : Int32) (u : SR) => (r, u) = f_X6_load R ∧ (RA u) ∧ (RS u)) (fun u U => va_P (dC, dI) vwCl (cMd a cI u) U.heap ∧ va_D (va_A (cMd a cI R) s.heap.size) (cMd a cI u)) (va_A (cMd a cI R) s.heap.size)) ([.ref (a 0)] : List Value).toArray s 0 0 (va_A (cMd a cI R) s.heap.size)) (F0 m 40 ls []) := by
        intro x1_40 x2_40 R_40 hI_40 hs_40 ovv_40 o1a_40 o1s_40 hR H locs ls hP hD hS hl
        rw [f_X6_load_p40] at hR
        refine lv_aload_n hx hb dX6_load_40 rfl (lv_at hl 0 rfl) ?_
        have hPc : va_P (dC, dI) vwCl (cMd a cI R_40) H := hP.sub [0, 1, 2, 3, 4, 5, 6] rfl
        have hDc : va_D (va_A (cMd a cI R) s.heap.size) (cMd a cI R_40) := hD.sub [0, 1, 2, 3, 4, 5, 6] (by decide) rfl
        have hFc : ∀ q : Nat, va_A (cMd a cI R_40) H.size q → (va_A (cMd a cI R) s.heap.size) q := va_free hD hS hA [0, 1, 2, 3, 4, 5, 6] rfl
        refine va_callv (va_runV (As := []) (rest := []) ⟨hx, hb, hml, hown, hts⟩ (c_X6_exchange l dC dI cI cC cS a R_40 H.size) (cwV 0 hts gX6_load_X6_exchange rfl rfl rfl (by decide +kernel) ⟨Nat.le_of_ble_eq_true rfl, Nat.le_of_ble_eq_true rfl⟩) (pV (q0 := 0) hK hPc hDc hN rfl rfl) rfl rfl hl.1 rfl (lv_room (Nat.le_of_ble_eq_true rfl)) dX6_load_41 ⟨Nat.le_of_ble_eq_true rfl, Nat.le_of_ble_eq_true rfl⟩) hS (fun q _ h => hFc q h) hFc (fun u_38 t_38 H39 locs ht hvm hw hB hz1 hk1 hS => ?_)
        obtain ⟨hw, hens40, hens41, hens42, hens43⟩ := hw
        obtain ⟨hP1, hD1⟩ := hB
        rw [ht] at hP1
        subst hw
        obtain ⟨hP, hD⟩ := va_join (wc := cMd a cI R_40) (wr := []) (w1 := cMd a cI (f_X6_exchange R_40)) hP hD [0, 1, 2, 3, 4, 5, 6] [] rfl rfl (by decide) (by decide) hk1 hFc hP1 hD1
        have hP : va_P (dC, dI) vwCl (cMd a cI (f_X6_exchange R_40)) H39 := hP.sub [0, 1, 2, 3, 4, 5, 6] rfl
        have hD : va_D (va_A (cMd a cI R) s.heap.size) (cMd a cI (f_X6_exchange R_40)) := hD.sub [0, 1, 2, 3, 4, 5, 6] (by decide) rfl
        obtain ⟨Rn44, eRn44⟩ : ∃ z : SR, z = (f_X6_exchange R_40) := ⟨_, rfl⟩
        rw [sLet_eq, ← eRn44] at hR
        rw [← eRn44] at hP hD
        have hI45 : RA Rn44 := (by rw [eRn44]; exact ra_ex o1a_40)
        have hs46 : RS Rn44 := (by rw [eRn44]; exact rs_ex o1s_40)
        have ovv47 : vp_in (Rn44 6 1) 6 := (by rw [eRn44, hens42]; exact ovv_40)
        have o1a48 : RA1 Rn44 := (by rw [eRn44]; exact ra1_ex hI_40)
        have o1s49 : RS1 Rn44 := (by rw [eRn44]; exact rs1_ex hs_40)
        refine lv_iload_n hx hb dX6_load_44 rfl (lv_at hl 2 rfl) ?_
        refine lv_if_ne (tgt := 57) hx hb dX6_load_45 (by decide) (fun c52 => ?_) (fun c52 => ?_)
        · rw [if_neg c52] at hR
          refine lv_aload_n hx hb dX6_load_57 rfl (lv_at hl 0 rfl) ?_
          have hPc : va_P (dC, dI) vwCl (cMd a cI Rn44) H39 := hP.sub [0, 1, 2, 3, 4, 5, 6] rfl
          have hDc : va_D (va_A (cMd a cI R) s.heap.size) (cMd a cI Rn44) := hD.sub [0, 1, 2, 3, 4, 5, 6] (by decide) rfl
          have hFc : ∀ q : Nat, va_A (cMd a cI Rn44) H39.size q → (va_A (cMd a cI R) s.heap.size) q := va_free hD hS hA [0, 1, 2, 3, 4, 5, 6] rfl
          refine va_callv (va_runV (As := []) (rest := []) ⟨hx, hb, hml, hown, hts⟩ (c_X6_act l dC dI cI cC cS a Rn44 H39.size ovv47) (cwV 0 hts gX6_load_X6_act rfl rfl rfl (by decide +kernel) ⟨Nat.le_of_ble_eq_true rfl, Nat.le_of_ble_eq_true rfl⟩) (pV (q0 := 0) hK hPc hDc hN rfl rfl) rfl rfl hl.1 rfl (lv_room (Nat.le_of_ble_eq_true rfl)) dX6_load_58 ⟨Nat.le_of_ble_eq_true rfl, Nat.le_of_ble_eq_true rfl⟩) hS (fun q _ h => hFc q h) hFc (fun u_53 t_53 H54 locs ht hvm hw hB hz1 hk1 hS => ?_)
          obtain ⟨hw, hens55, hens56, hens57, hens58⟩ := hw
          obtain ⟨hP1, hD1⟩ := hB
          rw [ht] at hP1
          subst hw
          obtain ⟨hP, hD⟩ := va_join (wc := cMd a cI Rn44) (wr := []) (w1 := cMd a cI (f_X6_act Rn44)) hP hD [0, 1, 2, 3, 4, 5, 6] [] rfl rfl (by decide) (by decide) hk1 hFc hP1 hD1
          have hP : va_P (dC, dI) vwCl (cMd a cI (f_X6_act Rn44)) H54 := hP.sub [0, 1, 2, 3, 4, 5, 6] rfl
          have hD : va_D (va_A (cMd a cI R) s.heap.size) (cMd a cI (f_X6_act Rn44)) := hD.sub [0, 1, 2, 3, 4, 5, 6] (by decide) rfl
          obtain ⟨Rn59, eRn59⟩ : ∃ z : SR, z = (f_X6_act Rn44) := ⟨_, rfl⟩
          rw [sLet_eq, ← eRn59] at hR
          rw [← eRn59] at hP hD
          have hI60 : RA Rn59 := (by rw [eRn59]; exact ra_eq hI45 hens55)
          have hs61 : RS Rn59 := (by rw [eRn59]; exact rs_eq0 hs46 hens55)
          have o1a63 : RA1 Rn59 := (by rw [eRn59]; exact ra1_eq o1a48 hens56)
          have o1s64 : RS1 Rn59 := (by rw [eRn59]; exact rs1_eq o1s49 hens56)
          refine lv_aload_n hx hb dX6_load_61 rfl (lv_at hl 0 rfl) ?_
          have hPc : va_P (dC, dI) vwCl (cMd a cI Rn59) H54 := hP.sub [0, 1, 2, 3, 4, 5, 6] rfl
          have hDc : va_D (va_A (cMd a cI R) s.heap.size) (cMd a cI Rn59) := hD.sub [0, 1, 2, 3, 4, 5, 6] (by decide) rfl
          have hFc : ∀ q : Nat, va_A (cMd a cI Rn59) H54.size q → (va_A (cMd a cI R) s.heap.size) q := va_free hD hS hA [0, 1, 2, 3, 4, 5, 6] rfl
          refine va_callv (va_runV (As := []) (rest := []) ⟨hx, hb, hml, hown, hts⟩ (c_X6_exchange l dC dI cI cC cS a Rn59 H54.size) (cwV 0 hts gX6_load_X6_exchange rfl rfl rfl (by decide +kernel) ⟨Nat.le_of_ble_eq_true rfl, Nat.le_of_ble_eq_true rfl⟩) (pV (q0 := 0) hK hPc hDc hN rfl rfl) rfl rfl hl.1 rfl (lv_room (Nat.le_of_ble_eq_true rfl)) dX6_load_62 ⟨Nat.le_of_ble_eq_true rfl, Nat.le_of_ble_eq_true rfl⟩) hS (fun q _ h => hFc q h) hFc (fun u_67 t_67 H68 locs ht hvm hw hB hz1 hk1 hS => ?_)
          obtain ⟨hw, hens69, hens70, hens71, hens72⟩ := hw
          obtain ⟨hP1, hD1⟩ := hB
          rw [ht] at hP1
          subst hw
          obtain ⟨hP, hD⟩ := va_join (wc := cMd a cI Rn59) (wr := []) (w1 := cMd a cI (f_X6_exchange Rn59)) hP hD [0, 1, 2, 3, 4, 5, 6] [] rfl rfl (by decide) (by decide) hk1 hFc hP1 hD1
          have hP : va_P (dC, dI) vwCl (cMd a cI (f_X6_exchange Rn59)) H68 := hP.sub [0, 1, 2, 3, 4, 5, 6] rfl
          have hD : va_D (va_A (cMd a cI R) s.heap.size) (cMd a cI (f_X6_exchange Rn59)) := hD.sub [0, 1, 2, 3, 4, 5, 6] (by decide) rfl
          obtain ⟨Rn73, eRn73⟩ : ∃ z : SR, z = (f_X6_exchange Rn59) := ⟨_, rfl⟩
          rw [sLet_eq, ← eRn73] at hR
          rw [← eRn73] at hP hD
          have hI74 : RA Rn73 := (by rw [eRn73]; exact ra_ex o1a63)
          have hs75 : RS Rn73 := (by rw [eRn73]; exact rs_ex o1s64)
          have o1a77 : RA1 Rn73 := (by rw [eRn73]; exact ra1_ex hI60)
          have o1s78 : RS1 Rn73 := (by rw [eRn73]; exact rs1_ex hs61)
          refine lv_aload_n hx hb dX6_load_65 rfl (lv_at hl 0 rfl) ?_
          refine lv_iconst (v := 0) hx hb dX6_load_66 (by decide) ?_
          refine va_put (D := (dC, dI)) (ci := 6) (v := .int 0) (ty := .int) (C := RX6) (T := TX6) (N := 15) hx hb hts hin6 tyX6 tyX6_ok nmX6 hown hK hP hD hS 0 rfl rfl 6 (by decide) (hts (.fieldLink RX6 122 "FeedDeskModel" "length" "I") (List.mem_of_getElem? (i := 3) rfl)) (fun _ h9 => h9) rfl (by decide +kernel) rfl rfl (Nat.le_of_ble_eq_true rfl) dX6_load_67 (fun H81 locs hP hD hS => ?_)
          have hP : va_P (dC, dI) vwCl (cMd a cI (sU Rn73 6 2 0)) H81 := hP
          have hD : va_D (va_A (cMd a cI R) s.heap.size) (cMd a cI (sU Rn73 6 2 0)) := hD
          obtain ⟨Rn82, eRn82⟩ : ∃ z : SR, z = sU Rn73 6 2 0 := ⟨_, rfl⟩
          rw [sLet_eq, ← eRn82] at hR
          rw [← eRn82] at hP hD
          have hI83 : RA Rn82 := (by rw [eRn82]; exact hI74)
          have hs84 : RS Rn82 := (by rw [eRn82]; exact hs75)
          have o1a86 : RA1 Rn82 := (by rw [eRn82]; exact o1a77)
          have o1s87 : RS1 Rn82 := (by rw [eRn82]; exact o1s78)
          refine lv_iload_n hx hb dX6_load_70 rfl (lv_at hl 1 rfl) ?_
          exact W.iret (v := x1_40) hx hb hr (fun t ht hWw => ⟨⟨x1_40, Rn82, rfl, ⟨hR.symm.trans eR, hI83, hs84⟩, by rw [ht]; exact hP, hD⟩, hS.F ht⟩) hS.2.2 dX6_load_71
        · rw [if_pos c52] at hR
          refine lv_sipush (v := (-1000)) hx hb dX6_load_48 (by decide) ?_
          refine lv_aload_n hx hb dX6_load_51 rfl (lv_at hl 0 rfl) ?_
          refine va_get (D := (dC, dI)) (ci := 6) (v := .int (Rn44 6 3)) (C := RX6) (T := TX6) (N := 15) hx hb hts hin6 hown hK hP 0 rfl rfl 7 (by decide) (hts (.fieldLink RX6 125 "FeedDeskModel" "next" "I") (List.mem_of_getElem? (i := 2) rfl)) (fun _ h9 => h9) rfl dX6_load_52 ?_
          refine lv_isub hx hb dX6_load_55 ?_
          exact W.iret (v := (-1000) - (Rn44 6 3)) hx hb hr (fun t ht hWw => ⟨⟨(-1000) - (Rn44 6 3), Rn44, rfl, ⟨hR.symm.trans eR, hI45, hs46⟩, by rw [ht]; exact hP, hD⟩, hS.F ht⟩) hS.2.2 dX6_load_56
      refine lv_if_eq (tgt := 40) hx hb dX6_load_19 (by decide) (fun c90 => ?_) (fun c90 => ?_)
      · rw [if_pos c90] at hR
        exact hJ_40 x1_18 x2_18 R_18 hI_18 hs_18 ovv_18 o1a_18 o1s_18 hR _ _ _ hP hD hS (lv_sub hl [0, 1, 2] rfl)
      · rw [if_neg c90] at hR
        refine lv_aload_n hx hb dX6_load_22 rfl (lv_at hl 0 rfl) ?_
        have hPc : va_P (dC, dI) vwCl (cMd a cI R_18) H := hP.sub [0, 1, 2, 3, 4, 5, 6] rfl
        have hDc : va_D (va_A (cMd a cI R) s.heap.size) (cMd a cI R_18) := hD.sub [0, 1, 2, 3, 4, 5, 6] (by decide) rfl
        have hFc : ∀ q : Nat, va_A (cMd a cI R_18) H.size q → (va_A (cMd a cI R) s.heap.size) q := va_free hD hS hA [0, 1, 2, 3, 4, 5, 6] rfl
        refine va_calli (va_runV (As := []) (rest := []) ⟨hx, hb, hml, hown, hts⟩ (c_X6_here l dC dI cI cC cS a R_18 H.size oht_18) (cwV 0 hts gX6_load_X6_here rfl rfl rfl (by decide +kernel) ⟨Nat.le_of_ble_eq_true rfl, Nat.le_of_ble_eq_true rfl⟩) (pV (q0 := 0) hK hPc hDc hN rfl rfl) rfl rfl hl.1 rfl (lv_room (Nat.le_of_ble_eq_true rfl)) dX6_load_23 ⟨Nat.le_of_ble_eq_true rfl, Nat.le_of_ble_eq_true rfl⟩) hS (fun q _ h => hFc q h) hFc (fun r_91 u_91 t_91 H92 locs ht hvm hw hB hz1 hk1 hS => ?_)
        obtain ⟨hw, hens93, hens94, hens95, hens96, hens97⟩ := hw
        obtain ⟨hP1, hD1⟩ := hB
        rw [ht] at hP1
        have hw1 : r_91 = (f_X6_here R_18).1 := congrArg Prod.fst hw
        have hw2 : u_91 = (f_X6_here R_18).2 := congrArg Prod.snd hw
        clear hw
        subst hw1
        subst hw2
        obtain ⟨hP, hD⟩ := va_join (wc := cMd a cI R_18) (wr := []) (w1 := cMd a cI ((f_X6_here R_18).2)) hP hD [0, 1, 2, 3, 4, 5, 6] [] rfl rfl (by decide) (by decide) hk1 hFc hP1 hD1
        have hP : va_P (dC, dI) vwCl (cMd a cI ((f_X6_here R_18).2)) H92 := hP.sub [0, 1, 2, 3, 4, 5, 6] rfl
        have hD : va_D (va_A (cMd a cI R) s.heap.size) (cMd a cI ((f_X6_here R_18).2)) := hD.sub [0, 1, 2, 3, 4, 5, 6] (by decide) rfl
        obtain ⟨Rn98, eRn98⟩ : ∃ z : SR, z = (f_X6_here R_18).2 := ⟨_, rfl⟩
        rw [sLet_eq, ← eRn98] at hR
        rw [← eRn98] at hP hD
        have hI99 : RA Rn98 := (by rw [eRn98]; exact ra_eq hI_18 hens94)
        have hs100 : RS Rn98 := (by rw [eRn98]; exact rs_eq0 hs_18 hens94)
        have ovv101 : vp_in (Rn98 6 1) 6 := (by rw [eRn98, hens95.2.2.2.1]; exact ovv_18)
        have o1a102 : RA1 Rn98 := (by rw [eRn98]; exact ra1_eq o1a_18 hens95.1)
        have o1s103 : RS1 Rn98 := (by rw [eRn98]; exact rs1_eq o1s_18 hens95.1)
        have oht104 : WFT Rn98 := by rw [eRn98]; exact hens93
        have hq106 : Rn98 0 = R_18 0 := by rw [eRn98]; exact hens94
        have hq107 : FX R_18 Rn98 := by rw [eRn98]; exact hens95
        have hq108 : MN R_18 Rn98 := by rw [eRn98]; exact hens96
        have hq109 : ((f_X6_here R_18).1) = -1 ∨ ¬ Rn98 6 2 ≤ Rn98 6 3 := by rw [eRn98]; exact hens97
        refine lv_if_lt (tgt := 40) hx hb dX6_load_26 (by decide) (fun c110 => ?_) (fun c110 => ?_)
        · rw [if_pos c110] at hR
          exact hJ_40 x1_18 x2_18 Rn98 hI99 hs100 ovv101 o1a102 o1s103 hR _ _ _ hP hD hS (lv_sub hl [0, 1, 2] rfl)
        · rw [if_neg c110] at hR
          refine lv_aload_n hx hb dX6_load_29 rfl (lv_at hl 0 rfl) ?_
          have hPc : va_P (dC, dI) vwCl (cMd a cI Rn98) H92 := hP.sub [0, 1, 2, 3, 4, 5, 6] rfl
          have hDc : va_D (va_A (cMd a cI R) s.heap.size) (cMd a cI Rn98) := hD.sub [0, 1, 2, 3, 4, 5, 6] (by decide) rfl
          have hFc : ∀ q : Nat, va_A (cMd a cI Rn98) H92.size q → (va_A (cMd a cI R) s.heap.size) q := va_free hD hS hA [0, 1, 2, 3, 4, 5, 6] rfl
          refine va_calli (va_runV (As := []) (rest := []) ⟨hx, hb, hml, hown, hts⟩ (c_X6_readsItem l dC dI cI cC cS a Rn98 H92.size oht104 hI99 hs100) (cwV 0 hts gX6_load_X6_readsItem rfl rfl rfl (by decide +kernel) ⟨Nat.le_of_ble_eq_true rfl, Nat.le_of_ble_eq_true rfl⟩) (pV (q0 := 0) hK hPc hDc hN rfl rfl) rfl rfl hl.1 rfl (lv_room (Nat.le_of_ble_eq_true rfl)) dX6_load_30 ⟨Nat.le_of_ble_eq_true rfl, Nat.le_of_ble_eq_true rfl⟩) hS (fun q _ h => hFc q h) hFc (fun r_111 u_111 t_111 H112 locs ht hvm hw hB hz1 hk1 hS => ?_)
          obtain ⟨hw, hens113, hens114, hens115, hens116, hens117, hens118, hens119⟩ := hw
          obtain ⟨hP1, hD1⟩ := hB
          rw [ht] at hP1
          have hw1 : r_111 = (f_X6_readsItem Rn98).1 := congrArg Prod.fst hw
          have hw2 : u_111 = (f_X6_readsItem Rn98).2 := congrArg Prod.snd hw
          clear hw
          subst hw1
          subst hw2
          obtain ⟨hP, hD⟩ := va_join (wc := cMd a cI Rn98) (wr := []) (w1 := cMd a cI ((f_X6_readsItem Rn98).2)) hP hD [0, 1, 2, 3, 4, 5, 6] [] rfl rfl (by decide) (by decide) hk1 hFc hP1 hD1
          have hP : va_P (dC, dI) vwCl (cMd a cI ((f_X6_readsItem Rn98).2)) H112 := hP.sub [0, 1, 2, 3, 4, 5, 6] rfl
          have hD : va_D (va_A (cMd a cI R) s.heap.size) (cMd a cI ((f_X6_readsItem Rn98).2)) := hD.sub [0, 1, 2, 3, 4, 5, 6] (by decide) rfl
          obtain ⟨Rn120, eRn120⟩ : ∃ z : SR, z = (f_X6_readsItem Rn98).2 := ⟨_, rfl⟩
          rw [sLet_eq, ← eRn120] at hR
          rw [← eRn120] at hP hD
          have hI121 : RA Rn120 := by rw [eRn120]; exact hens114
          have hs122 : RS Rn120 := by rw [eRn120]; exact hens115
          have ovv123 : vp_in (Rn120 6 1) 6 := (by rw [eRn120, hens116.2.2.2.1]; exact ovv101)
          have o1a124 : RA1 Rn120 := (by rw [eRn120]; exact ra1_eq o1a102 hens116.1)
          have o1s125 : RS1 Rn120 := (by rw [eRn120]; exact rs1_eq o1s103 hens116.1)
          have oht126 : WFT Rn120 := by rw [eRn120]; exact hens113
          have hq128 : FX Rn98 Rn120 := by rw [eRn120]; exact hens116
          have hq129 : MN Rn98 Rn120 := by rw [eRn120]; exact hens117
          have hq130 : ((f_X6_readsItem Rn98).1) = 0 ∨ MS Rn98 Rn120 := by rw [eRn120]; exact hens118
          refine lv_istore_n (lv' := [(2, .int ((f_X6_readsItem Rn98).1)), (0, .ref (a 0)), (1, .int x1_18)]) hx hb dX6_load_33 rfl hl (by decide) rfl (fun ls hl => ?_)
          refine lv_iinc (v := x1_18 + 1) (lv' := [(1, .int (x1_18 + 1)), (2, .int ((f_X6_readsItem Rn98).1)), (0, .ref (a 0))]) hx hb dX6_load_34 hl (k := 2) rfl rfl (by decide) rfl (fun ls hl => ?_)
          refine lv_goto (tgt := 18) hx hb dX6_load_37 (by decide) ?_
          exact ih_18 (x1_18 + 1) ((f_X6_readsItem Rn98).1) Rn120 (rq_back c90 hq_18 hq108 hq130) hI121 hs122 ovv123 o1a124 o1s125 oht126 hR _ _ _ hP hD hS (lv_sub hl [2, 0, 1] rfl)
  exact hL_18 144 0 1 Rn29 (rq_in ht37) hI30 hs31 ovv32 o1a33 o1s34 ht37 hR _ _ _ hP hD hS (lv_sub hl [2, 1, 0] rfl)
