theorem wf_S0 : WF S0 := ⟨fun j hj => Or.inl ((by decide +kernel : ∀ j : Nat, j < 4 → S0 5 j = -1) j hj), vp_of_B (by decide +kernel)⟩
theorem wfg_G0 : WFG G0 := by
  refine ⟨fun k hk => ?_, vp_of_B (by decide +kernel), vp_of_B (by decide +kernel), vp_of_B (by decide +kernel)⟩
  have : G0 k = S0 := if_pos hk
  rw [this]
  exact wf_S0
theorem ix_11 : ∀ q0 : Nat, q0 < 18 → vp_okB ((nI q0)) 18 = true := by decide +kernel
set_option maxHeartbeats 8000000 in
set_option maxRecDepth 100000 in
theorem law_body {p : Program} {e : Env} {s : State} {m : MethodId} {below : List Frame} {meth : Method} {c : Code} (l : Launch) {b L : Nat} {xs : Nat → Int32} (C0 : lw_At p s m meth c b L xs) {dC : Nat → ClassId} {dI : Nat → Nat → Nat} {cI cC cS : ClassId} (hK : va_K (dC, dI) vwCl (tyL cI cC cS) s) (hN : ENV s) (hT : STA (fun q : Nat => s.heap.size ≤ q) s s.heap) (hL : L ≤ 260) (a : Nat → Nat) (h1 : (f_L_law_p10 L xs 19 0 G0).1 = 1) (H : Heap) (locs : List Loc) (ls : Array Slot) (hP : va_P (dC, dI) vwCl (cDk a cI cC cS G0) H) (hD : va_D (fun q : Nat => s.heap.size ≤ q) (cDk a cI cC cS G0)) (hS : va_S (fun q : Nat => s.heap.size ≤ q) s.heap H locs) (hl : lv_has ls 14 [(0, .ref b), (1, .ref (a 0)), (2, .int 0)]) : W p l e room_1 s m #[Value.ref b] below meth c H locs 93 1959 (lw_Z below #[Value.ref b] s) (F0 m 10 ls []) := by
  obtain ⟨hx, hb, hr, hml, hown, hts, hX, hbl, hlocks, hgv⟩ := C0
  have hown : s.vm.findClass RL = some m.cls := hown
  have hts := fun w h => hts w (wsL_law_in w h)
  have hA : ∀ q : Nat, s.heap.size ≤ q → (fun q : Nat => s.heap.size ≤ q) q := fun _ h => h
  have hbA : ¬ (fun q : Nat => s.heap.size ≤ q) b := Nat.not_le.mpr hbl
  have hL31 : L < 2 ^ 31 := by omega
  have hTb := sx_T hX hbA hL31
  obtain ⟨R0, eR⟩ : ∃ z, z = f_L_law_p10 L xs 19 0 G0 := ⟨_, rfl⟩
  rw [← eR] at h1
  have hR := eR
  have hL_10 : ∀ n_10 : Nat, ∀ (j_10 : Nat), ∀ (x2_10 : Int32) (G_10 : GR), x2_10 = nI j_10 → j_10 ≤ 18 → 18 < j_10 + n_10 → WFG G_10 → R0 = f_L_law_p10 L xs n_10 x2_10 G_10 → ∀ (H : Heap) (locs : List Loc) (ls : Array Slot), va_P (dC, dI) vwCl (cDk a cI cC cS G_10) H → va_D ((fun q : Nat => s.heap.size ≤ q)) (cDk a cI cC cS G_10) → va_S ((fun q : Nat => s.heap.size ≤ q)) s.heap H locs → lv_has ls 14 [(0, .ref (b)), (1, .ref (a 0)), (2, .int x2_10)] → W p l e room_1 s m #[Value.ref b] below meth c H locs 93 1959 (lw_Z below #[Value.ref b] s) (F0 m 10 ls []) := by
    intro n_10
    induction n_10 with
    | zero =>
      intro j_10 x2_10 G_10 ex2_10 hj0_10 hn_10 hG_10
      exact absurd hn_10 (by omega)
    | succ n_10 ih_10 =>
      intro j_10 x2_10 G_10 ex2_10 hj0_10 hn_10 hG_10 hR H locs ls hP hD hS hl
      rw [f_L_law_p10] at hR
      refine lv_iload_n hx hb dL_law_10 rfl (lv_at hl 2 rfl) ?_
      refine lv_bipush (v := 18) hx hb dL_law_11 (by decide) ?_
      refine lv_icmp_ge (tgt := 302) hx hb dL_law_13 (by decide) (fun c1 => ?_) (fun c1 => ?_)
      · rw [if_pos c1] at hR
        refine lv_aload_n hx hb dL_law_302 rfl (lv_at hl 1 rfl) ?_
        have hPc : va_P (dC, dI) vwCl (cDk a cI cC cS G_10) H := hP.sub [0, 1, 2, 3, 4, 5, 6, 7, 8, 9, 10, 11, 12, 13, 14, 15, 16, 17, 18, 19, 20, 21, 22, 23, 24, 25, 26, 27, 28, 29, 30, 31, 32, 33, 34, 35, 36, 37, 38, 39, 40, 41, 42, 43, 44, 45, 46, 47, 48, 49, 50, 51, 52, 53, 54, 55, 56, 57, 58, 59, 60, 61, 62, 63, 64, 65, 66, 67, 68, 69, 70, 71, 72, 73, 74, 75, 76, 77, 78, 79, 80, 81, 82, 83, 84, 85, 86, 87, 88, 89, 90, 91, 92] rfl
        have hDc : va_D ((fun q : Nat => s.heap.size ≤ q)) (cDk a cI cC cS G_10) := hD.sub [0, 1, 2, 3, 4, 5, 6, 7, 8, 9, 10, 11, 12, 13, 14, 15, 16, 17, 18, 19, 20, 21, 22, 23, 24, 25, 26, 27, 28, 29, 30, 31, 32, 33, 34, 35, 36, 37, 38, 39, 40, 41, 42, 43, 44, 45, 46, 47, 48, 49, 50, 51, 52, 53, 54, 55, 56, 57, 58, 59, 60, 61, 62, 63, 64, 65, 66, 67, 68, 69, 70, 71, 72, 73, 74, 75, 76, 77, 78, 79, 80, 81, 82, 83, 84, 85, 86, 87, 88, 89, 90, 91, 92] (by decide) rfl
        have hFc : ∀ q : Nat, va_A [] H.size q → (fun q : Nat => s.heap.size ≤ q) q := roF hS hA
        refine va_calll (va_runS (As := [.ref (a 0)]) (rest := []) ⟨hx, hb, hml, hown, hts⟩ (c_L_digest l dC dI cI cC cS a G_10 H.size hG_10) (va_cwS 1 hts gL_law_L_digest rfl rfl rfl (by decide +kernel) ⟨Nat.le_of_ble_eq_true rfl, Nat.le_of_ble_eq_true rfl⟩) (pSS hK hPc hDc hN hT hS hFc) rfl rfl hl.1 rfl (lv_room (Nat.le_of_ble_eq_true rfl)) dL_law_303 ⟨Nat.le_of_ble_eq_true rfl, Nat.le_of_ble_eq_true rfl⟩) hS (fun q _ h => hFc q h) hFc (fun r_2 u_2 t_2 H3 locs ht hvm hw hB hz1 hk1 hS => ?_)
        subst hw
        have hP := ro_keep hP hk1
        refine lv_lstore_n (lv' := [(2, .long (f_L_digest G_10)), (0, .ref (b)), (1, .ref (a 0))]) hx hb dL_law_306 rfl hl (by decide) rfl (fun ls hl => ?_)
        refine lv_aload_n hx hb dL_law_307 rfl (lv_at hl 2 rfl) ?_
        refine lv_bipush (v := 12) hx hb dL_law_308 (by decide) ?_
        refine lv_iconst (v := 0) hx hb dL_law_310 (by decide) ?_
        refine lv_iconst (v := 0) hx hb dL_law_311 (by decide) ?_
        have hPc : va_P (dC, dI) vwCl (cDk a cI cC cS G_10) H3 := hP.sub [0, 1, 2, 3, 4, 5, 6, 7, 8, 9, 10, 11, 12, 13, 14, 15, 16, 17, 18, 19, 20, 21, 22, 23, 24, 25, 26, 27, 28, 29, 30, 31, 32, 33, 34, 35, 36, 37, 38, 39, 40, 41, 42, 43, 44, 45, 46, 47, 48, 49, 50, 51, 52, 53, 54, 55, 56, 57, 58, 59, 60, 61, 62, 63, 64, 65, 66, 67, 68, 69, 70, 71, 72, 73, 74, 75, 76, 77, 78, 79, 80, 81, 82, 83, 84, 85, 86, 87, 88, 89, 90, 91, 92] rfl
        have hDc : va_D ((fun q : Nat => s.heap.size ≤ q)) (cDk a cI cC cS G_10) := hD.sub [0, 1, 2, 3, 4, 5, 6, 7, 8, 9, 10, 11, 12, 13, 14, 15, 16, 17, 18, 19, 20, 21, 22, 23, 24, 25, 26, 27, 28, 29, 30, 31, 32, 33, 34, 35, 36, 37, 38, 39, 40, 41, 42, 43, 44, 45, 46, 47, 48, 49, 50, 51, 52, 53, 54, 55, 56, 57, 58, 59, 60, 61, 62, 63, 64, 65, 66, 67, 68, 69, 70, 71, 72, 73, 74, 75, 76, 77, 78, 79, 80, 81, 82, 83, 84, 85, 86, 87, 88, 89, 90, 91, 92] (by decide) rfl
        have hFc : ∀ q : Nat, va_A (cDk a cI cC cS G_10) H3.size q → (fun q : Nat => s.heap.size ≤ q) q := va_free hD hS hA [0, 1, 2, 3, 4, 5, 6, 7, 8, 9, 10, 11, 12, 13, 14, 15, 16, 17, 18, 19, 20, 21, 22, 23, 24, 25, 26, 27, 28, 29, 30, 31, 32, 33, 34, 35, 36, 37, 38, 39, 40, 41, 42, 43, 44, 45, 46, 47, 48, 49, 50, 51, 52, 53, 54, 55, 56, 57, 58, 59, 60, 61, 62, 63, 64, 65, 66, 67, 68, 69, 70, 71, 72, 73, 74, 75, 76, 77, 78, 79, 80, 81, 82, 83, 84, 85, 86, 87, 88, 89, 90, 91, 92] rfl
        refine va_calli (va_runV (As := [.int 12, .int 0, .int 0]) (rest := []) ⟨hx, hb, hml, hown, hts⟩ (c_X5_setChannel l dC dI cI cC cS a G_10 H3.size 12 0 0 hG_10) (cwV 3 hts gL_law_X5_setChannel rfl rfl rfl (by decide +kernel) ⟨Nat.le_of_ble_eq_true rfl, Nat.le_of_ble_eq_true rfl⟩) (pVS (q0 := 0) hK hPc hDc hN hT hS hFc rfl rfl) rfl rfl hl.1 rfl (lv_room (Nat.le_of_ble_eq_true rfl)) dL_law_312 ⟨Nat.le_of_ble_eq_true rfl, Nat.le_of_ble_eq_true rfl⟩) hS (fun q _ h => hFc q h) hFc (fun r_4 u_4 t_4 H5 locs ht hvm hw hB hz1 hk1 hS => ?_)
        obtain ⟨hw, hens6⟩ := hw
        obtain ⟨hP1, hD1⟩ := hB
        rw [ht] at hP1
        have hw1 : r_4 = (f_X5_setChannel G_10 12 0 0).1 := congrArg Prod.fst hw
        have hw2 : u_4 = (f_X5_setChannel G_10 12 0 0).2 := congrArg Prod.snd hw
        clear hw
        subst hw1
        rw [hw2] at hP1 hD1 hens6
        obtain ⟨hP, hD⟩ := va_join (wc := cDk a cI cC cS G_10) (wr := []) (w1 := cDk a cI cC cS ((f_X5_setChannel G_10 12 0 0).2)) hP hD [0, 1, 2, 3, 4, 5, 6, 7, 8, 9, 10, 11, 12, 13, 14, 15, 16, 17, 18, 19, 20, 21, 22, 23, 24, 25, 26, 27, 28, 29, 30, 31, 32, 33, 34, 35, 36, 37, 38, 39, 40, 41, 42, 43, 44, 45, 46, 47, 48, 49, 50, 51, 52, 53, 54, 55, 56, 57, 58, 59, 60, 61, 62, 63, 64, 65, 66, 67, 68, 69, 70, 71, 72, 73, 74, 75, 76, 77, 78, 79, 80, 81, 82, 83, 84, 85, 86, 87, 88, 89, 90, 91, 92] [] rfl rfl (by decide) (by decide) hk1 hFc hP1 hD1
        have hP : va_P (dC, dI) vwCl (cDk a cI cC cS ((f_X5_setChannel G_10 12 0 0).2)) H5 := hP.sub [0, 1, 2, 3, 4, 5, 6, 7, 8, 9, 10, 11, 12, 13, 14, 15, 16, 17, 18, 19, 20, 21, 22, 23, 24, 25, 26, 27, 28, 29, 30, 31, 32, 33, 34, 35, 36, 37, 38, 39, 40, 41, 42, 43, 44, 45, 46, 47, 48, 49, 50, 51, 52, 53, 54, 55, 56, 57, 58, 59, 60, 61, 62, 63, 64, 65, 66, 67, 68, 69, 70, 71, 72, 73, 74, 75, 76, 77, 78, 79, 80, 81, 82, 83, 84, 85, 86, 87, 88, 89, 90, 91, 92] rfl
        have hD : va_D ((fun q : Nat => s.heap.size ≤ q)) (cDk a cI cC cS ((f_X5_setChannel G_10 12 0 0).2)) := hD.sub [0, 1, 2, 3, 4, 5, 6, 7, 8, 9, 10, 11, 12, 13, 14, 15, 16, 17, 18, 19, 20, 21, 22, 23, 24, 25, 26, 27, 28, 29, 30, 31, 32, 33, 34, 35, 36, 37, 38, 39, 40, 41, 42, 43, 44, 45, 46, 47, 48, 49, 50, 51, 52, 53, 54, 55, 56, 57, 58, 59, 60, 61, 62, 63, 64, 65, 66, 67, 68, 69, 70, 71, 72, 73, 74, 75, 76, 77, 78, 79, 80, 81, 82, 83, 84, 85, 86, 87, 88, 89, 90, 91, 92] (by decide) rfl
        obtain ⟨Gn7, eGn7⟩ : ∃ z : GR, z = (f_X5_setChannel G_10 12 0 0).2 := ⟨_, rfl⟩
        rw [sLet_eq, ← eGn7] at hR
        rw [← eGn7] at hP hD
        have hG8 : WFG Gn7 := by rw [eGn7]; exact hens6
        refine lv_iconst (v := (-1)) hx hb dL_law_315 (by decide) ?_
        refine lv_icmp_ne (tgt := 407) hx hb dL_law_316 (by decide) (fun c9 => ?_) (fun c9 => ?_)
        · rw [if_neg c9] at hR
          refine lv_iconst (v := 0) hx hb dL_law_407 (by decide) ?_
          exact absurd (h1.symm.trans (congrArg Prod.fst hR)) (show ¬ (1 : Int32) = 0 by decide)
        · rw [if_pos c9] at hR
          refine lv_aload_n hx hb dL_law_319 rfl (lv_at hl 2 rfl) ?_
          refine lv_iconst (v := 0) hx hb dL_law_320 (by decide) ?_
          refine lv_iconst (v := 0) hx hb dL_law_321 (by decide) ?_
          refine lv_sipush (v := 1001) hx hb dL_law_322 (by decide) ?_
          have hPc : va_P (dC, dI) vwCl (cDk a cI cC cS Gn7) H5 := hP.sub [0, 1, 2, 3, 4, 5, 6, 7, 8, 9, 10, 11, 12, 13, 14, 15, 16, 17, 18, 19, 20, 21, 22, 23, 24, 25, 26, 27, 28, 29, 30, 31, 32, 33, 34, 35, 36, 37, 38, 39, 40, 41, 42, 43, 44, 45, 46, 47, 48, 49, 50, 51, 52, 53, 54, 55, 56, 57, 58, 59, 60, 61, 62, 63, 64, 65, 66, 67, 68, 69, 70, 71, 72, 73, 74, 75, 76, 77, 78, 79, 80, 81, 82, 83, 84, 85, 86, 87, 88, 89, 90, 91, 92] rfl
          have hDc : va_D ((fun q : Nat => s.heap.size ≤ q)) (cDk a cI cC cS Gn7) := hD.sub [0, 1, 2, 3, 4, 5, 6, 7, 8, 9, 10, 11, 12, 13, 14, 15, 16, 17, 18, 19, 20, 21, 22, 23, 24, 25, 26, 27, 28, 29, 30, 31, 32, 33, 34, 35, 36, 37, 38, 39, 40, 41, 42, 43, 44, 45, 46, 47, 48, 49, 50, 51, 52, 53, 54, 55, 56, 57, 58, 59, 60, 61, 62, 63, 64, 65, 66, 67, 68, 69, 70, 71, 72, 73, 74, 75, 76, 77, 78, 79, 80, 81, 82, 83, 84, 85, 86, 87, 88, 89, 90, 91, 92] (by decide) rfl
          have hFc : ∀ q : Nat, va_A (cDk a cI cC cS Gn7) H5.size q → (fun q : Nat => s.heap.size ≤ q) q := va_free hD hS hA [0, 1, 2, 3, 4, 5, 6, 7, 8, 9, 10, 11, 12, 13, 14, 15, 16, 17, 18, 19, 20, 21, 22, 23, 24, 25, 26, 27, 28, 29, 30, 31, 32, 33, 34, 35, 36, 37, 38, 39, 40, 41, 42, 43, 44, 45, 46, 47, 48, 49, 50, 51, 52, 53, 54, 55, 56, 57, 58, 59, 60, 61, 62, 63, 64, 65, 66, 67, 68, 69, 70, 71, 72, 73, 74, 75, 76, 77, 78, 79, 80, 81, 82, 83, 84, 85, 86, 87, 88, 89, 90, 91, 92] rfl
          refine va_calli (va_runV (As := [.int 0, .int 0, .int 1001]) (rest := []) ⟨hx, hb, hml, hown, hts⟩ (c_X5_setChannel l dC dI cI cC cS a Gn7 H5.size 0 0 1001 hG8) (cwV 3 hts gL_law_X5_setChannel rfl rfl rfl (by decide +kernel) ⟨Nat.le_of_ble_eq_true rfl, Nat.le_of_ble_eq_true rfl⟩) (pVS (q0 := 0) hK hPc hDc hN hT hS hFc rfl rfl) rfl rfl hl.1 rfl (lv_room (Nat.le_of_ble_eq_true rfl)) dL_law_325 ⟨Nat.le_of_ble_eq_true rfl, Nat.le_of_ble_eq_true rfl⟩) hS (fun q _ h => hFc q h) hFc (fun r_10 u_10 t_10 H11 locs ht hvm hw hB hz1 hk1 hS => ?_)
          obtain ⟨hw, hens12⟩ := hw
          obtain ⟨hP1, hD1⟩ := hB
          rw [ht] at hP1
          have hw1 : r_10 = (f_X5_setChannel Gn7 0 0 1001).1 := congrArg Prod.fst hw
          have hw2 : u_10 = (f_X5_setChannel Gn7 0 0 1001).2 := congrArg Prod.snd hw
          clear hw
          subst hw1
          rw [hw2] at hP1 hD1 hens12
          obtain ⟨hP, hD⟩ := va_join (wc := cDk a cI cC cS Gn7) (wr := []) (w1 := cDk a cI cC cS ((f_X5_setChannel Gn7 0 0 1001).2)) hP hD [0, 1, 2, 3, 4, 5, 6, 7, 8, 9, 10, 11, 12, 13, 14, 15, 16, 17, 18, 19, 20, 21, 22, 23, 24, 25, 26, 27, 28, 29, 30, 31, 32, 33, 34, 35, 36, 37, 38, 39, 40, 41, 42, 43, 44, 45, 46, 47, 48, 49, 50, 51, 52, 53, 54, 55, 56, 57, 58, 59, 60, 61, 62, 63, 64, 65, 66, 67, 68, 69, 70, 71, 72, 73, 74, 75, 76, 77, 78, 79, 80, 81, 82, 83, 84, 85, 86, 87, 88, 89, 90, 91, 92] [] rfl rfl (by decide) (by decide) hk1 hFc hP1 hD1
          have hP : va_P (dC, dI) vwCl (cDk a cI cC cS ((f_X5_setChannel Gn7 0 0 1001).2)) H11 := hP.sub [0, 1, 2, 3, 4, 5, 6, 7, 8, 9, 10, 11, 12, 13, 14, 15, 16, 17, 18, 19, 20, 21, 22, 23, 24, 25, 26, 27, 28, 29, 30, 31, 32, 33, 34, 35, 36, 37, 38, 39, 40, 41, 42, 43, 44, 45, 46, 47, 48, 49, 50, 51, 52, 53, 54, 55, 56, 57, 58, 59, 60, 61, 62, 63, 64, 65, 66, 67, 68, 69, 70, 71, 72, 73, 74, 75, 76, 77, 78, 79, 80, 81, 82, 83, 84, 85, 86, 87, 88, 89, 90, 91, 92] rfl
          have hD : va_D ((fun q : Nat => s.heap.size ≤ q)) (cDk a cI cC cS ((f_X5_setChannel Gn7 0 0 1001).2)) := hD.sub [0, 1, 2, 3, 4, 5, 6, 7, 8, 9, 10, 11, 12, 13, 14, 15, 16, 17, 18, 19, 20, 21, 22, 23, 24, 25, 26, 27, 28, 29, 30, 31, 32, 33, 34, 35, 36, 37, 38, 39, 40, 41, 42, 43, 44, 45, 46, 47, 48, 49, 50, 51, 52, 53, 54, 55, 56, 57, 58, 59, 60, 61, 62, 63, 64, 65, 66, 67, 68, 69, 70, 71, 72, 73, 74, 75, 76, 77, 78, 79, 80, 81, 82, 83, 84, 85, 86, 87, 88, 89, 90, 91, 92] (by decide) rfl
          obtain ⟨Gn13, eGn13⟩ : ∃ z : GR, z = (f_X5_setChannel Gn7 0 0 1001).2 := ⟨_, rfl⟩
          rw [sLet_eq, ← eGn13] at hR
          rw [← eGn13] at hP hD
          have hG14 : WFG Gn13 := by rw [eGn13]; exact hens12
          refine lv_iconst (v := (-1)) hx hb dL_law_328 (by decide) ?_
          refine lv_icmp_ne (tgt := 407) hx hb dL_law_329 (by decide) (fun c15 => ?_) (fun c15 => ?_)
          · rw [if_neg c15] at hR
            refine lv_iconst (v := 0) hx hb dL_law_407 (by decide) ?_
            exact absurd (h1.symm.trans (congrArg Prod.fst hR)) (show ¬ (1 : Int32) = 0 by decide)
          · rw [if_pos c15] at hR
            refine lv_aload_n hx hb dL_law_332 rfl (lv_at hl 2 rfl) ?_
            refine lv_iconst (v := 0) hx hb dL_law_333 (by decide) ?_
            refine lv_iconst (v := 1) hx hb dL_law_334 (by decide) ?_
            refine lv_iconst (v := 2) hx hb dL_law_335 (by decide) ?_
            have hPc : va_P (dC, dI) vwCl (cDk a cI cC cS Gn13) H11 := hP.sub [0, 1, 2, 3, 4, 5, 6, 7, 8, 9, 10, 11, 12, 13, 14, 15, 16, 17, 18, 19, 20, 21, 22, 23, 24, 25, 26, 27, 28, 29, 30, 31, 32, 33, 34, 35, 36, 37, 38, 39, 40, 41, 42, 43, 44, 45, 46, 47, 48, 49, 50, 51, 52, 53, 54, 55, 56, 57, 58, 59, 60, 61, 62, 63, 64, 65, 66, 67, 68, 69, 70, 71, 72, 73, 74, 75, 76, 77, 78, 79, 80, 81, 82, 83, 84, 85, 86, 87, 88, 89, 90, 91, 92] rfl
            have hDc : va_D ((fun q : Nat => s.heap.size ≤ q)) (cDk a cI cC cS Gn13) := hD.sub [0, 1, 2, 3, 4, 5, 6, 7, 8, 9, 10, 11, 12, 13, 14, 15, 16, 17, 18, 19, 20, 21, 22, 23, 24, 25, 26, 27, 28, 29, 30, 31, 32, 33, 34, 35, 36, 37, 38, 39, 40, 41, 42, 43, 44, 45, 46, 47, 48, 49, 50, 51, 52, 53, 54, 55, 56, 57, 58, 59, 60, 61, 62, 63, 64, 65, 66, 67, 68, 69, 70, 71, 72, 73, 74, 75, 76, 77, 78, 79, 80, 81, 82, 83, 84, 85, 86, 87, 88, 89, 90, 91, 92] (by decide) rfl
            have hFc : ∀ q : Nat, va_A (cDk a cI cC cS Gn13) H11.size q → (fun q : Nat => s.heap.size ≤ q) q := va_free hD hS hA [0, 1, 2, 3, 4, 5, 6, 7, 8, 9, 10, 11, 12, 13, 14, 15, 16, 17, 18, 19, 20, 21, 22, 23, 24, 25, 26, 27, 28, 29, 30, 31, 32, 33, 34, 35, 36, 37, 38, 39, 40, 41, 42, 43, 44, 45, 46, 47, 48, 49, 50, 51, 52, 53, 54, 55, 56, 57, 58, 59, 60, 61, 62, 63, 64, 65, 66, 67, 68, 69, 70, 71, 72, 73, 74, 75, 76, 77, 78, 79, 80, 81, 82, 83, 84, 85, 86, 87, 88, 89, 90, 91, 92] rfl
            refine va_calli (va_runV (As := [.int 0, .int 1, .int 2]) (rest := []) ⟨hx, hb, hml, hown, hts⟩ (c_X5_setGroup l dC dI cI cC cS a Gn13 H11.size 0 1 2 hG14) (cwV 3 hts gL_law_X5_setGroup rfl rfl rfl (by decide +kernel) ⟨Nat.le_of_ble_eq_true rfl, Nat.le_of_ble_eq_true rfl⟩) (pVS (q0 := 0) hK hPc hDc hN hT hS hFc rfl rfl) rfl rfl hl.1 rfl (lv_room (Nat.le_of_ble_eq_true rfl)) dL_law_336 ⟨Nat.le_of_ble_eq_true rfl, Nat.le_of_ble_eq_true rfl⟩) hS (fun q _ h => hFc q h) hFc (fun r_16 u_16 t_16 H17 locs ht hvm hw hB hz1 hk1 hS => ?_)
            obtain ⟨hw, hens18⟩ := hw
            obtain ⟨hP1, hD1⟩ := hB
            rw [ht] at hP1
            have hw1 : r_16 = (f_X5_setGroup Gn13 0 1 2).1 := congrArg Prod.fst hw
            have hw2 : u_16 = (f_X5_setGroup Gn13 0 1 2).2 := congrArg Prod.snd hw
            clear hw
            subst hw1
            rw [hw2] at hP1 hD1 hens18
            obtain ⟨hP, hD⟩ := va_join (wc := cDk a cI cC cS Gn13) (wr := []) (w1 := cDk a cI cC cS ((f_X5_setGroup Gn13 0 1 2).2)) hP hD [0, 1, 2, 3, 4, 5, 6, 7, 8, 9, 10, 11, 12, 13, 14, 15, 16, 17, 18, 19, 20, 21, 22, 23, 24, 25, 26, 27, 28, 29, 30, 31, 32, 33, 34, 35, 36, 37, 38, 39, 40, 41, 42, 43, 44, 45, 46, 47, 48, 49, 50, 51, 52, 53, 54, 55, 56, 57, 58, 59, 60, 61, 62, 63, 64, 65, 66, 67, 68, 69, 70, 71, 72, 73, 74, 75, 76, 77, 78, 79, 80, 81, 82, 83, 84, 85, 86, 87, 88, 89, 90, 91, 92] [] rfl rfl (by decide) (by decide) hk1 hFc hP1 hD1
            have hP : va_P (dC, dI) vwCl (cDk a cI cC cS ((f_X5_setGroup Gn13 0 1 2).2)) H17 := hP.sub [0, 1, 2, 3, 4, 5, 6, 7, 8, 9, 10, 11, 12, 13, 14, 15, 16, 17, 18, 19, 20, 21, 22, 23, 24, 25, 26, 27, 28, 29, 30, 31, 32, 33, 34, 35, 36, 37, 38, 39, 40, 41, 42, 43, 44, 45, 46, 47, 48, 49, 50, 51, 52, 53, 54, 55, 56, 57, 58, 59, 60, 61, 62, 63, 64, 65, 66, 67, 68, 69, 70, 71, 72, 73, 74, 75, 76, 77, 78, 79, 80, 81, 82, 83, 84, 85, 86, 87, 88, 89, 90, 91, 92] rfl
            have hD : va_D ((fun q : Nat => s.heap.size ≤ q)) (cDk a cI cC cS ((f_X5_setGroup Gn13 0 1 2).2)) := hD.sub [0, 1, 2, 3, 4, 5, 6, 7, 8, 9, 10, 11, 12, 13, 14, 15, 16, 17, 18, 19, 20, 21, 22, 23, 24, 25, 26, 27, 28, 29, 30, 31, 32, 33, 34, 35, 36, 37, 38, 39, 40, 41, 42, 43, 44, 45, 46, 47, 48, 49, 50, 51, 52, 53, 54, 55, 56, 57, 58, 59, 60, 61, 62, 63, 64, 65, 66, 67, 68, 69, 70, 71, 72, 73, 74, 75, 76, 77, 78, 79, 80, 81, 82, 83, 84, 85, 86, 87, 88, 89, 90, 91, 92] (by decide) rfl
            obtain ⟨Gn19, eGn19⟩ : ∃ z : GR, z = (f_X5_setGroup Gn13 0 1 2).2 := ⟨_, rfl⟩
            rw [sLet_eq, ← eGn19] at hR
            rw [← eGn19] at hP hD
            have hG20 : WFG Gn19 := by rw [eGn19]; exact hens18
            refine lv_iconst (v := (-1)) hx hb dL_law_339 (by decide) ?_
            refine lv_icmp_ne (tgt := 407) hx hb dL_law_340 (by decide) (fun c21 => ?_) (fun c21 => ?_)
            · rw [if_neg c21] at hR
              refine lv_iconst (v := 0) hx hb dL_law_407 (by decide) ?_
              exact absurd (h1.symm.trans (congrArg Prod.fst hR)) (show ¬ (1 : Int32) = 0 by decide)
            · rw [if_pos c21] at hR
              refine lv_aload_n hx hb dL_law_343 rfl (lv_at hl 2 rfl) ?_
              refine lv_iconst (v := 0) hx hb dL_law_344 (by decide) ?_
              refine lv_iconst (v := 0) hx hb dL_law_345 (by decide) ?_
              refine lv_bipush (v := 101) hx hb dL_law_346 (by decide) ?_
              have hPc : va_P (dC, dI) vwCl (cDk a cI cC cS Gn19) H17 := hP.sub [0, 1, 2, 3, 4, 5, 6, 7, 8, 9, 10, 11, 12, 13, 14, 15, 16, 17, 18, 19, 20, 21, 22, 23, 24, 25, 26, 27, 28, 29, 30, 31, 32, 33, 34, 35, 36, 37, 38, 39, 40, 41, 42, 43, 44, 45, 46, 47, 48, 49, 50, 51, 52, 53, 54, 55, 56, 57, 58, 59, 60, 61, 62, 63, 64, 65, 66, 67, 68, 69, 70, 71, 72, 73, 74, 75, 76, 77, 78, 79, 80, 81, 82, 83, 84, 85, 86, 87, 88, 89, 90, 91, 92] rfl
              have hDc : va_D ((fun q : Nat => s.heap.size ≤ q)) (cDk a cI cC cS Gn19) := hD.sub [0, 1, 2, 3, 4, 5, 6, 7, 8, 9, 10, 11, 12, 13, 14, 15, 16, 17, 18, 19, 20, 21, 22, 23, 24, 25, 26, 27, 28, 29, 30, 31, 32, 33, 34, 35, 36, 37, 38, 39, 40, 41, 42, 43, 44, 45, 46, 47, 48, 49, 50, 51, 52, 53, 54, 55, 56, 57, 58, 59, 60, 61, 62, 63, 64, 65, 66, 67, 68, 69, 70, 71, 72, 73, 74, 75, 76, 77, 78, 79, 80, 81, 82, 83, 84, 85, 86, 87, 88, 89, 90, 91, 92] (by decide) rfl
              have hFc : ∀ q : Nat, va_A (cDk a cI cC cS Gn19) H17.size q → (fun q : Nat => s.heap.size ≤ q) q := va_free hD hS hA [0, 1, 2, 3, 4, 5, 6, 7, 8, 9, 10, 11, 12, 13, 14, 15, 16, 17, 18, 19, 20, 21, 22, 23, 24, 25, 26, 27, 28, 29, 30, 31, 32, 33, 34, 35, 36, 37, 38, 39, 40, 41, 42, 43, 44, 45, 46, 47, 48, 49, 50, 51, 52, 53, 54, 55, 56, 57, 58, 59, 60, 61, 62, 63, 64, 65, 66, 67, 68, 69, 70, 71, 72, 73, 74, 75, 76, 77, 78, 79, 80, 81, 82, 83, 84, 85, 86, 87, 88, 89, 90, 91, 92] rfl
              refine va_calli (va_runV (As := [.int 0, .int 0, .int 101]) (rest := []) ⟨hx, hb, hml, hown, hts⟩ (c_X5_setSend l dC dI cI cC cS a Gn19 H17.size 0 0 101 hG20) (cwV 3 hts gL_law_X5_setSend rfl rfl rfl (by decide +kernel) ⟨Nat.le_of_ble_eq_true rfl, Nat.le_of_ble_eq_true rfl⟩) (pV (q0 := 0) hK hPc hDc hN rfl rfl) rfl rfl hl.1 rfl (lv_room (Nat.le_of_ble_eq_true rfl)) dL_law_348 ⟨Nat.le_of_ble_eq_true rfl, Nat.le_of_ble_eq_true rfl⟩) hS (fun q _ h => hFc q h) hFc (fun r_22 u_22 t_22 H23 locs ht hvm hw hB hz1 hk1 hS => ?_)
              obtain ⟨hw, hens24⟩ := hw
              obtain ⟨hP1, hD1⟩ := hB
              rw [ht] at hP1
              have hw1 : r_22 = (f_X5_setSend Gn19 0 0 101).1 := congrArg Prod.fst hw
              have hw2 : u_22 = (f_X5_setSend Gn19 0 0 101).2 := congrArg Prod.snd hw
              clear hw
              subst hw1
              rw [hw2] at hP1 hD1 hens24
              obtain ⟨hP, hD⟩ := va_join (wc := cDk a cI cC cS Gn19) (wr := []) (w1 := cDk a cI cC cS ((f_X5_setSend Gn19 0 0 101).2)) hP hD [0, 1, 2, 3, 4, 5, 6, 7, 8, 9, 10, 11, 12, 13, 14, 15, 16, 17, 18, 19, 20, 21, 22, 23, 24, 25, 26, 27, 28, 29, 30, 31, 32, 33, 34, 35, 36, 37, 38, 39, 40, 41, 42, 43, 44, 45, 46, 47, 48, 49, 50, 51, 52, 53, 54, 55, 56, 57, 58, 59, 60, 61, 62, 63, 64, 65, 66, 67, 68, 69, 70, 71, 72, 73, 74, 75, 76, 77, 78, 79, 80, 81, 82, 83, 84, 85, 86, 87, 88, 89, 90, 91, 92] [] rfl rfl (by decide) (by decide) hk1 hFc hP1 hD1
              have hP : va_P (dC, dI) vwCl (cDk a cI cC cS ((f_X5_setSend Gn19 0 0 101).2)) H23 := hP.sub [0, 1, 2, 3, 4, 5, 6, 7, 8, 9, 10, 11, 12, 13, 14, 15, 16, 17, 18, 19, 20, 21, 22, 23, 24, 25, 26, 27, 28, 29, 30, 31, 32, 33, 34, 35, 36, 37, 38, 39, 40, 41, 42, 43, 44, 45, 46, 47, 48, 49, 50, 51, 52, 53, 54, 55, 56, 57, 58, 59, 60, 61, 62, 63, 64, 65, 66, 67, 68, 69, 70, 71, 72, 73, 74, 75, 76, 77, 78, 79, 80, 81, 82, 83, 84, 85, 86, 87, 88, 89, 90, 91, 92] rfl
              have hD : va_D ((fun q : Nat => s.heap.size ≤ q)) (cDk a cI cC cS ((f_X5_setSend Gn19 0 0 101).2)) := hD.sub [0, 1, 2, 3, 4, 5, 6, 7, 8, 9, 10, 11, 12, 13, 14, 15, 16, 17, 18, 19, 20, 21, 22, 23, 24, 25, 26, 27, 28, 29, 30, 31, 32, 33, 34, 35, 36, 37, 38, 39, 40, 41, 42, 43, 44, 45, 46, 47, 48, 49, 50, 51, 52, 53, 54, 55, 56, 57, 58, 59, 60, 61, 62, 63, 64, 65, 66, 67, 68, 69, 70, 71, 72, 73, 74, 75, 76, 77, 78, 79, 80, 81, 82, 83, 84, 85, 86, 87, 88, 89, 90, 91, 92] (by decide) rfl
              obtain ⟨Gn25, eGn25⟩ : ∃ z : GR, z = (f_X5_setSend Gn19 0 0 101).2 := ⟨_, rfl⟩
              rw [sLet_eq, ← eGn25] at hR
              rw [← eGn25] at hP hD
              have hG26 : WFG Gn25 := by rw [eGn25]; exact hens24
              refine lv_iconst (v := (-1)) hx hb dL_law_351 (by decide) ?_
              refine lv_icmp_ne (tgt := 407) hx hb dL_law_352 (by decide) (fun c27 => ?_) (fun c27 => ?_)
              · rw [if_neg c27] at hR
                refine lv_iconst (v := 0) hx hb dL_law_407 (by decide) ?_
                exact absurd (h1.symm.trans (congrArg Prod.fst hR)) (show ¬ (1 : Int32) = 0 by decide)
              · rw [if_pos c27] at hR
                refine lv_aload_n hx hb dL_law_355 rfl (lv_at hl 2 rfl) ?_
                refine lv_iconst (v := 0) hx hb dL_law_356 (by decide) ?_
                refine lv_bipush (v := 12) hx hb dL_law_357 (by decide) ?_
                have hPc : va_P (dC, dI) vwCl (cDk a cI cC cS Gn25) H23 := hP.sub [0, 1, 2, 3, 4, 5, 6, 7, 8, 9, 10, 11, 12, 13, 14, 15, 16, 17, 18, 19, 20, 21, 22, 23, 24, 25, 26, 27, 28, 29, 30, 31, 32, 33, 34, 35, 36, 37, 38, 39, 40, 41, 42, 43, 44, 45, 46, 47, 48, 49, 50, 51, 52, 53, 54, 55, 56, 57, 58, 59, 60, 61, 62, 63, 64, 65, 66, 67, 68, 69, 70, 71, 72, 73, 74, 75, 76, 77, 78, 79, 80, 81, 82, 83, 84, 85, 86, 87, 88, 89, 90, 91, 92] rfl
                have hDc : va_D ((fun q : Nat => s.heap.size ≤ q)) (cDk a cI cC cS Gn25) := hD.sub [0, 1, 2, 3, 4, 5, 6, 7, 8, 9, 10, 11, 12, 13, 14, 15, 16, 17, 18, 19, 20, 21, 22, 23, 24, 25, 26, 27, 28, 29, 30, 31, 32, 33, 34, 35, 36, 37, 38, 39, 40, 41, 42, 43, 44, 45, 46, 47, 48, 49, 50, 51, 52, 53, 54, 55, 56, 57, 58, 59, 60, 61, 62, 63, 64, 65, 66, 67, 68, 69, 70, 71, 72, 73, 74, 75, 76, 77, 78, 79, 80, 81, 82, 83, 84, 85, 86, 87, 88, 89, 90, 91, 92] (by decide) rfl
                have hFc : ∀ q : Nat, va_A (cDk a cI cC cS Gn25) H23.size q → (fun q : Nat => s.heap.size ≤ q) q := va_free hD hS hA [0, 1, 2, 3, 4, 5, 6, 7, 8, 9, 10, 11, 12, 13, 14, 15, 16, 17, 18, 19, 20, 21, 22, 23, 24, 25, 26, 27, 28, 29, 30, 31, 32, 33, 34, 35, 36, 37, 38, 39, 40, 41, 42, 43, 44, 45, 46, 47, 48, 49, 50, 51, 52, 53, 54, 55, 56, 57, 58, 59, 60, 61, 62, 63, 64, 65, 66, 67, 68, 69, 70, 71, 72, 73, 74, 75, 76, 77, 78, 79, 80, 81, 82, 83, 84, 85, 86, 87, 88, 89, 90, 91, 92] rfl
                refine va_calli (va_runV (As := [.int 0, .int 12]) (rest := []) ⟨hx, hb, hml, hown, hts⟩ (c_X5_setReturn l dC dI cI cC cS a Gn25 H23.size 0 12 hG26) (cwV 2 hts gL_law_X5_setReturn rfl rfl rfl (by decide +kernel) ⟨Nat.le_of_ble_eq_true rfl, Nat.le_of_ble_eq_true rfl⟩) (pV (q0 := 0) hK hPc hDc hN rfl rfl) rfl rfl hl.1 rfl (lv_room (Nat.le_of_ble_eq_true rfl)) dL_law_359 ⟨Nat.le_of_ble_eq_true rfl, Nat.le_of_ble_eq_true rfl⟩) hS (fun q _ h => hFc q h) hFc (fun r_28 u_28 t_28 H29 locs ht hvm hw hB hz1 hk1 hS => ?_)
                obtain ⟨hw, hens30⟩ := hw
                obtain ⟨hP1, hD1⟩ := hB
                rw [ht] at hP1
                have hw1 : r_28 = (f_X5_setReturn Gn25 0 12).1 := congrArg Prod.fst hw
                have hw2 : u_28 = (f_X5_setReturn Gn25 0 12).2 := congrArg Prod.snd hw
                clear hw
                subst hw1
                rw [hw2] at hP1 hD1 hens30
                obtain ⟨hP, hD⟩ := va_join (wc := cDk a cI cC cS Gn25) (wr := []) (w1 := cDk a cI cC cS ((f_X5_setReturn Gn25 0 12).2)) hP hD [0, 1, 2, 3, 4, 5, 6, 7, 8, 9, 10, 11, 12, 13, 14, 15, 16, 17, 18, 19, 20, 21, 22, 23, 24, 25, 26, 27, 28, 29, 30, 31, 32, 33, 34, 35, 36, 37, 38, 39, 40, 41, 42, 43, 44, 45, 46, 47, 48, 49, 50, 51, 52, 53, 54, 55, 56, 57, 58, 59, 60, 61, 62, 63, 64, 65, 66, 67, 68, 69, 70, 71, 72, 73, 74, 75, 76, 77, 78, 79, 80, 81, 82, 83, 84, 85, 86, 87, 88, 89, 90, 91, 92] [] rfl rfl (by decide) (by decide) hk1 hFc hP1 hD1
                have hP : va_P (dC, dI) vwCl (cDk a cI cC cS ((f_X5_setReturn Gn25 0 12).2)) H29 := hP.sub [0, 1, 2, 3, 4, 5, 6, 7, 8, 9, 10, 11, 12, 13, 14, 15, 16, 17, 18, 19, 20, 21, 22, 23, 24, 25, 26, 27, 28, 29, 30, 31, 32, 33, 34, 35, 36, 37, 38, 39, 40, 41, 42, 43, 44, 45, 46, 47, 48, 49, 50, 51, 52, 53, 54, 55, 56, 57, 58, 59, 60, 61, 62, 63, 64, 65, 66, 67, 68, 69, 70, 71, 72, 73, 74, 75, 76, 77, 78, 79, 80, 81, 82, 83, 84, 85, 86, 87, 88, 89, 90, 91, 92] rfl
                have hD : va_D ((fun q : Nat => s.heap.size ≤ q)) (cDk a cI cC cS ((f_X5_setReturn Gn25 0 12).2)) := hD.sub [0, 1, 2, 3, 4, 5, 6, 7, 8, 9, 10, 11, 12, 13, 14, 15, 16, 17, 18, 19, 20, 21, 22, 23, 24, 25, 26, 27, 28, 29, 30, 31, 32, 33, 34, 35, 36, 37, 38, 39, 40, 41, 42, 43, 44, 45, 46, 47, 48, 49, 50, 51, 52, 53, 54, 55, 56, 57, 58, 59, 60, 61, 62, 63, 64, 65, 66, 67, 68, 69, 70, 71, 72, 73, 74, 75, 76, 77, 78, 79, 80, 81, 82, 83, 84, 85, 86, 87, 88, 89, 90, 91, 92] (by decide) rfl
                obtain ⟨Gn31, eGn31⟩ : ∃ z : GR, z = (f_X5_setReturn Gn25 0 12).2 := ⟨_, rfl⟩
                rw [sLet_eq, ← eGn31] at hR
                rw [← eGn31] at hP hD
                have hG32 : WFG Gn31 := by rw [eGn31]; exact hens30
                refine lv_iconst (v := (-1)) hx hb dL_law_362 (by decide) ?_
                refine lv_icmp_ne (tgt := 407) hx hb dL_law_363 (by decide) (fun c33 => ?_) (fun c33 => ?_)
                · rw [if_neg c33] at hR
                  refine lv_iconst (v := 0) hx hb dL_law_407 (by decide) ?_
                  exact absurd (h1.symm.trans (congrArg Prod.fst hR)) (show ¬ (1 : Int32) = 0 by decide)
                · rw [if_pos c33] at hR
                  refine lv_aload_n hx hb dL_law_366 rfl (lv_at hl 2 rfl) ?_
                  refine lv_bipush (v := 6) hx hb dL_law_367 (by decide) ?_
                  refine lv_iconst (v := 0) hx hb dL_law_369 (by decide) ?_
                  have hPc : va_P (dC, dI) vwCl (cDk a cI cC cS Gn31) H29 := hP.sub [0, 1, 2, 3, 4, 5, 6, 7, 8, 9, 10, 11, 12, 13, 14, 15, 16, 17, 18, 19, 20, 21, 22, 23, 24, 25, 26, 27, 28, 29, 30, 31, 32, 33, 34, 35, 36, 37, 38, 39, 40, 41, 42, 43, 44, 45, 46, 47, 48, 49, 50, 51, 52, 53, 54, 55, 56, 57, 58, 59, 60, 61, 62, 63, 64, 65, 66, 67, 68, 69, 70, 71, 72, 73, 74, 75, 76, 77, 78, 79, 80, 81, 82, 83, 84, 85, 86, 87, 88, 89, 90, 91, 92] rfl
                  have hDc : va_D ((fun q : Nat => s.heap.size ≤ q)) (cDk a cI cC cS Gn31) := hD.sub [0, 1, 2, 3, 4, 5, 6, 7, 8, 9, 10, 11, 12, 13, 14, 15, 16, 17, 18, 19, 20, 21, 22, 23, 24, 25, 26, 27, 28, 29, 30, 31, 32, 33, 34, 35, 36, 37, 38, 39, 40, 41, 42, 43, 44, 45, 46, 47, 48, 49, 50, 51, 52, 53, 54, 55, 56, 57, 58, 59, 60, 61, 62, 63, 64, 65, 66, 67, 68, 69, 70, 71, 72, 73, 74, 75, 76, 77, 78, 79, 80, 81, 82, 83, 84, 85, 86, 87, 88, 89, 90, 91, 92] (by decide) rfl
                  have hFc : ∀ q : Nat, va_A (cDk a cI cC cS Gn31) H29.size q → (fun q : Nat => s.heap.size ≤ q) q := va_free hD hS hA [0, 1, 2, 3, 4, 5, 6, 7, 8, 9, 10, 11, 12, 13, 14, 15, 16, 17, 18, 19, 20, 21, 22, 23, 24, 25, 26, 27, 28, 29, 30, 31, 32, 33, 34, 35, 36, 37, 38, 39, 40, 41, 42, 43, 44, 45, 46, 47, 48, 49, 50, 51, 52, 53, 54, 55, 56, 57, 58, 59, 60, 61, 62, 63, 64, 65, 66, 67, 68, 69, 70, 71, 72, 73, 74, 75, 76, 77, 78, 79, 80, 81, 82, 83, 84, 85, 86, 87, 88, 89, 90, 91, 92] rfl
                  refine va_calli (va_runV (As := [.int 6, .int 0]) (rest := []) ⟨hx, hb, hml, hown, hts⟩ (c_X5_recall l dC dI cI cC cS a Gn31 H29.size 6 0 hG32) (cwV 2 hts gL_law_X5_recall rfl rfl rfl (by decide +kernel) ⟨Nat.le_of_ble_eq_true rfl, Nat.le_of_ble_eq_true rfl⟩) (pV (q0 := 0) hK hPc hDc hN rfl rfl) rfl rfl hl.1 rfl (lv_room (Nat.le_of_ble_eq_true rfl)) dL_law_370 ⟨Nat.le_of_ble_eq_true rfl, Nat.le_of_ble_eq_true rfl⟩) hS (fun q _ h => hFc q h) hFc (fun r_34 u_34 t_34 H35 locs ht hvm hw hB hz1 hk1 hS => ?_)
                  obtain ⟨hw, hens36⟩ := hw
                  obtain ⟨hP1, hD1⟩ := hB
                  rw [ht] at hP1
                  have hw1 : r_34 = (f_X5_recall Gn31 6 0).1 := congrArg Prod.fst hw
                  have hw2 : u_34 = (f_X5_recall Gn31 6 0).2 := congrArg Prod.snd hw
                  clear hw
                  subst hw1
                  rw [hw2] at hP1 hD1 hens36
                  obtain ⟨hP, hD⟩ := va_join (wc := cDk a cI cC cS Gn31) (wr := []) (w1 := cDk a cI cC cS ((f_X5_recall Gn31 6 0).2)) hP hD [0, 1, 2, 3, 4, 5, 6, 7, 8, 9, 10, 11, 12, 13, 14, 15, 16, 17, 18, 19, 20, 21, 22, 23, 24, 25, 26, 27, 28, 29, 30, 31, 32, 33, 34, 35, 36, 37, 38, 39, 40, 41, 42, 43, 44, 45, 46, 47, 48, 49, 50, 51, 52, 53, 54, 55, 56, 57, 58, 59, 60, 61, 62, 63, 64, 65, 66, 67, 68, 69, 70, 71, 72, 73, 74, 75, 76, 77, 78, 79, 80, 81, 82, 83, 84, 85, 86, 87, 88, 89, 90, 91, 92] [] rfl rfl (by decide) (by decide) hk1 hFc hP1 hD1
                  have hP : va_P (dC, dI) vwCl (cDk a cI cC cS ((f_X5_recall Gn31 6 0).2)) H35 := hP.sub [0, 1, 2, 3, 4, 5, 6, 7, 8, 9, 10, 11, 12, 13, 14, 15, 16, 17, 18, 19, 20, 21, 22, 23, 24, 25, 26, 27, 28, 29, 30, 31, 32, 33, 34, 35, 36, 37, 38, 39, 40, 41, 42, 43, 44, 45, 46, 47, 48, 49, 50, 51, 52, 53, 54, 55, 56, 57, 58, 59, 60, 61, 62, 63, 64, 65, 66, 67, 68, 69, 70, 71, 72, 73, 74, 75, 76, 77, 78, 79, 80, 81, 82, 83, 84, 85, 86, 87, 88, 89, 90, 91, 92] rfl
                  have hD : va_D ((fun q : Nat => s.heap.size ≤ q)) (cDk a cI cC cS ((f_X5_recall Gn31 6 0).2)) := hD.sub [0, 1, 2, 3, 4, 5, 6, 7, 8, 9, 10, 11, 12, 13, 14, 15, 16, 17, 18, 19, 20, 21, 22, 23, 24, 25, 26, 27, 28, 29, 30, 31, 32, 33, 34, 35, 36, 37, 38, 39, 40, 41, 42, 43, 44, 45, 46, 47, 48, 49, 50, 51, 52, 53, 54, 55, 56, 57, 58, 59, 60, 61, 62, 63, 64, 65, 66, 67, 68, 69, 70, 71, 72, 73, 74, 75, 76, 77, 78, 79, 80, 81, 82, 83, 84, 85, 86, 87, 88, 89, 90, 91, 92] (by decide) rfl
                  obtain ⟨Gn37, eGn37⟩ : ∃ z : GR, z = (f_X5_recall Gn31 6 0).2 := ⟨_, rfl⟩
                  rw [sLet_eq, ← eGn37] at hR
                  rw [← eGn37] at hP hD
                  have hG38 : WFG Gn37 := by rw [eGn37]; exact hens36
                  refine lv_iconst (v := (-1)) hx hb dL_law_373 (by decide) ?_
                  refine lv_icmp_ne (tgt := 407) hx hb dL_law_374 (by decide) (fun c39 => ?_) (fun c39 => ?_)
                  · rw [if_neg c39] at hR
                    refine lv_iconst (v := 0) hx hb dL_law_407 (by decide) ?_
                    exact absurd (h1.symm.trans (congrArg Prod.fst hR)) (show ¬ (1 : Int32) = 0 by decide)
                  · rw [if_pos c39] at hR
                    refine lv_aload_n hx hb dL_law_377 rfl (lv_at hl 2 rfl) ?_
                    refine lv_iconst (v := 0) hx hb dL_law_378 (by decide) ?_
                    have hPc : va_P (dC, dI) vwCl (cDk a cI cC cS Gn37) H35 := hP.sub [0, 1, 2, 3, 4, 5, 6, 7, 8, 9, 10, 11, 12, 13, 14, 15, 16, 17, 18, 19, 20, 21, 22, 23, 24, 25, 26, 27, 28, 29, 30, 31, 32, 33, 34, 35, 36, 37, 38, 39, 40, 41, 42, 43, 44, 45, 46, 47, 48, 49, 50, 51, 52, 53, 54, 55, 56, 57, 58, 59, 60, 61, 62, 63, 64, 65, 66, 67, 68, 69, 70, 71, 72, 73, 74, 75, 76, 77, 78, 79, 80, 81, 82, 83, 84, 85, 86, 87, 88, 89, 90, 91, 92] rfl
                    have hDc : va_D ((fun q : Nat => s.heap.size ≤ q)) (cDk a cI cC cS Gn37) := hD.sub [0, 1, 2, 3, 4, 5, 6, 7, 8, 9, 10, 11, 12, 13, 14, 15, 16, 17, 18, 19, 20, 21, 22, 23, 24, 25, 26, 27, 28, 29, 30, 31, 32, 33, 34, 35, 36, 37, 38, 39, 40, 41, 42, 43, 44, 45, 46, 47, 48, 49, 50, 51, 52, 53, 54, 55, 56, 57, 58, 59, 60, 61, 62, 63, 64, 65, 66, 67, 68, 69, 70, 71, 72, 73, 74, 75, 76, 77, 78, 79, 80, 81, 82, 83, 84, 85, 86, 87, 88, 89, 90, 91, 92] (by decide) rfl
                    have hFc : ∀ q : Nat, va_A (cDk a cI cC cS Gn37) H35.size q → (fun q : Nat => s.heap.size ≤ q) q := va_free hD hS hA [0, 1, 2, 3, 4, 5, 6, 7, 8, 9, 10, 11, 12, 13, 14, 15, 16, 17, 18, 19, 20, 21, 22, 23, 24, 25, 26, 27, 28, 29, 30, 31, 32, 33, 34, 35, 36, 37, 38, 39, 40, 41, 42, 43, 44, 45, 46, 47, 48, 49, 50, 51, 52, 53, 54, 55, 56, 57, 58, 59, 60, 61, 62, 63, 64, 65, 66, 67, 68, 69, 70, 71, 72, 73, 74, 75, 76, 77, 78, 79, 80, 81, 82, 83, 84, 85, 86, 87, 88, 89, 90, 91, 92] rfl
                    refine va_calli (va_runV (As := [.int 0]) (rest := []) ⟨hx, hb, hml, hown, hts⟩ (c_X5_run l dC dI cI cC cS a Gn37 H35.size 0 hG38) (cwV 1 hts gL_law_X5_run rfl rfl rfl (by decide +kernel) ⟨Nat.le_of_ble_eq_true rfl, Nat.le_of_ble_eq_true rfl⟩) (pV (q0 := 0) hK hPc hDc hN rfl rfl) rfl rfl hl.1 rfl (lv_room (Nat.le_of_ble_eq_true rfl)) dL_law_379 ⟨Nat.le_of_ble_eq_true rfl, Nat.le_of_ble_eq_true rfl⟩) hS (fun q _ h => hFc q h) hFc (fun r_40 u_40 t_40 H41 locs ht hvm hw hB hz1 hk1 hS => ?_)
                    obtain ⟨hw, hens42⟩ := hw
                    obtain ⟨hP1, hD1⟩ := hB
                    rw [ht] at hP1
                    have hw1 : r_40 = (f_X5_run Gn37 0).1 := congrArg Prod.fst hw
                    have hw2 : u_40 = (f_X5_run Gn37 0).2 := congrArg Prod.snd hw
                    clear hw
                    subst hw1
                    rw [hw2] at hP1 hD1 hens42
                    obtain ⟨hP, hD⟩ := va_join (wc := cDk a cI cC cS Gn37) (wr := []) (w1 := cDk a cI cC cS ((f_X5_run Gn37 0).2)) hP hD [0, 1, 2, 3, 4, 5, 6, 7, 8, 9, 10, 11, 12, 13, 14, 15, 16, 17, 18, 19, 20, 21, 22, 23, 24, 25, 26, 27, 28, 29, 30, 31, 32, 33, 34, 35, 36, 37, 38, 39, 40, 41, 42, 43, 44, 45, 46, 47, 48, 49, 50, 51, 52, 53, 54, 55, 56, 57, 58, 59, 60, 61, 62, 63, 64, 65, 66, 67, 68, 69, 70, 71, 72, 73, 74, 75, 76, 77, 78, 79, 80, 81, 82, 83, 84, 85, 86, 87, 88, 89, 90, 91, 92] [] rfl rfl (by decide) (by decide) hk1 hFc hP1 hD1
                    have hP : va_P (dC, dI) vwCl (cDk a cI cC cS ((f_X5_run Gn37 0).2)) H41 := hP.sub [0, 1, 2, 3, 4, 5, 6, 7, 8, 9, 10, 11, 12, 13, 14, 15, 16, 17, 18, 19, 20, 21, 22, 23, 24, 25, 26, 27, 28, 29, 30, 31, 32, 33, 34, 35, 36, 37, 38, 39, 40, 41, 42, 43, 44, 45, 46, 47, 48, 49, 50, 51, 52, 53, 54, 55, 56, 57, 58, 59, 60, 61, 62, 63, 64, 65, 66, 67, 68, 69, 70, 71, 72, 73, 74, 75, 76, 77, 78, 79, 80, 81, 82, 83, 84, 85, 86, 87, 88, 89, 90, 91, 92] rfl
                    have hD : va_D ((fun q : Nat => s.heap.size ≤ q)) (cDk a cI cC cS ((f_X5_run Gn37 0).2)) := hD.sub [0, 1, 2, 3, 4, 5, 6, 7, 8, 9, 10, 11, 12, 13, 14, 15, 16, 17, 18, 19, 20, 21, 22, 23, 24, 25, 26, 27, 28, 29, 30, 31, 32, 33, 34, 35, 36, 37, 38, 39, 40, 41, 42, 43, 44, 45, 46, 47, 48, 49, 50, 51, 52, 53, 54, 55, 56, 57, 58, 59, 60, 61, 62, 63, 64, 65, 66, 67, 68, 69, 70, 71, 72, 73, 74, 75, 76, 77, 78, 79, 80, 81, 82, 83, 84, 85, 86, 87, 88, 89, 90, 91, 92] (by decide) rfl
                    obtain ⟨Gn43, eGn43⟩ : ∃ z : GR, z = (f_X5_run Gn37 0).2 := ⟨_, rfl⟩
                    rw [sLet_eq, ← eGn43] at hR
                    rw [← eGn43] at hP hD
                    have hG44 : WFG Gn43 := by rw [eGn43]; exact hens42
                    refine lv_iconst (v := (-1)) hx hb dL_law_382 (by decide) ?_
                    refine lv_icmp_ne (tgt := 407) hx hb dL_law_383 (by decide) (fun c45 => ?_) (fun c45 => ?_)
                    · rw [if_neg c45] at hR
                      refine lv_iconst (v := 0) hx hb dL_law_407 (by decide) ?_
                      exact absurd (h1.symm.trans (congrArg Prod.fst hR)) (show ¬ (1 : Int32) = 0 by decide)
                    · rw [if_pos c45] at hR
                      refine lv_aload_n hx hb dL_law_386 rfl (lv_at hl 2 rfl) ?_
                      refine lv_iconst (v := 0) hx hb dL_law_387 (by decide) ?_
                      refine lv_iconst (v := 0) hx hb dL_law_388 (by decide) ?_
                      refine lv_bipush (v := (-2)) hx hb dL_law_389 (by decide) ?_
                      have hPc : va_P (dC, dI) vwCl (cDk a cI cC cS Gn43) H41 := hP.sub [0, 1, 2, 3, 4, 5, 6, 7, 8, 9, 10, 11, 12, 13, 14, 15, 16, 17, 18, 19, 20, 21, 22, 23, 24, 25, 26, 27, 28, 29, 30, 31, 32, 33, 34, 35, 36, 37, 38, 39, 40, 41, 42, 43, 44, 45, 46, 47, 48, 49, 50, 51, 52, 53, 54, 55, 56, 57, 58, 59, 60, 61, 62, 63, 64, 65, 66, 67, 68, 69, 70, 71, 72, 73, 74, 75, 76, 77, 78, 79, 80, 81, 82, 83, 84, 85, 86, 87, 88, 89, 90, 91, 92] rfl
                      have hDc : va_D ((fun q : Nat => s.heap.size ≤ q)) (cDk a cI cC cS Gn43) := hD.sub [0, 1, 2, 3, 4, 5, 6, 7, 8, 9, 10, 11, 12, 13, 14, 15, 16, 17, 18, 19, 20, 21, 22, 23, 24, 25, 26, 27, 28, 29, 30, 31, 32, 33, 34, 35, 36, 37, 38, 39, 40, 41, 42, 43, 44, 45, 46, 47, 48, 49, 50, 51, 52, 53, 54, 55, 56, 57, 58, 59, 60, 61, 62, 63, 64, 65, 66, 67, 68, 69, 70, 71, 72, 73, 74, 75, 76, 77, 78, 79, 80, 81, 82, 83, 84, 85, 86, 87, 88, 89, 90, 91, 92] (by decide) rfl
                      have hFc : ∀ q : Nat, va_A (cDk a cI cC cS Gn43) H41.size q → (fun q : Nat => s.heap.size ≤ q) q := va_free hD hS hA [0, 1, 2, 3, 4, 5, 6, 7, 8, 9, 10, 11, 12, 13, 14, 15, 16, 17, 18, 19, 20, 21, 22, 23, 24, 25, 26, 27, 28, 29, 30, 31, 32, 33, 34, 35, 36, 37, 38, 39, 40, 41, 42, 43, 44, 45, 46, 47, 48, 49, 50, 51, 52, 53, 54, 55, 56, 57, 58, 59, 60, 61, 62, 63, 64, 65, 66, 67, 68, 69, 70, 71, 72, 73, 74, 75, 76, 77, 78, 79, 80, 81, 82, 83, 84, 85, 86, 87, 88, 89, 90, 91, 92] rfl
                      refine va_calli (va_runV (As := [.int 0, .int 0, .int (-2)]) (rest := []) ⟨hx, hb, hml, hown, hts⟩ (c_X5_path l dC dI cI cC cS a Gn43 H41.size 0 0 (-2) hG44) (cwV 3 hts gL_law_X5_path rfl rfl rfl (by decide +kernel) ⟨Nat.le_of_ble_eq_true rfl, Nat.le_of_ble_eq_true rfl⟩) (pV (q0 := 0) hK hPc hDc hN rfl rfl) rfl rfl hl.1 rfl (lv_room (Nat.le_of_ble_eq_true rfl)) dL_law_391 ⟨Nat.le_of_ble_eq_true rfl, Nat.le_of_ble_eq_true rfl⟩) hS (fun q _ h => hFc q h) hFc (fun r_46 u_46 t_46 H47 locs ht hvm hw hB hz1 hk1 hS => ?_)
                      obtain ⟨hw, hens48⟩ := hw
                      obtain ⟨hP1, hD1⟩ := hB
                      rw [ht] at hP1
                      have hw1 : r_46 = (f_X5_path Gn43 0 0 (-2)).1 := congrArg Prod.fst hw
                      have hw2 : u_46 = (f_X5_path Gn43 0 0 (-2)).2 := congrArg Prod.snd hw
                      clear hw
                      subst hw1
                      rw [hw2] at hP1 hD1 hens48
                      obtain ⟨hP, hD⟩ := va_join (wc := cDk a cI cC cS Gn43) (wr := []) (w1 := cDk a cI cC cS ((f_X5_path Gn43 0 0 (-2)).2)) hP hD [0, 1, 2, 3, 4, 5, 6, 7, 8, 9, 10, 11, 12, 13, 14, 15, 16, 17, 18, 19, 20, 21, 22, 23, 24, 25, 26, 27, 28, 29, 30, 31, 32, 33, 34, 35, 36, 37, 38, 39, 40, 41, 42, 43, 44, 45, 46, 47, 48, 49, 50, 51, 52, 53, 54, 55, 56, 57, 58, 59, 60, 61, 62, 63, 64, 65, 66, 67, 68, 69, 70, 71, 72, 73, 74, 75, 76, 77, 78, 79, 80, 81, 82, 83, 84, 85, 86, 87, 88, 89, 90, 91, 92] [] rfl rfl (by decide) (by decide) hk1 hFc hP1 hD1
                      have hP : va_P (dC, dI) vwCl (cDk a cI cC cS ((f_X5_path Gn43 0 0 (-2)).2)) H47 := hP.sub [0, 1, 2, 3, 4, 5, 6, 7, 8, 9, 10, 11, 12, 13, 14, 15, 16, 17, 18, 19, 20, 21, 22, 23, 24, 25, 26, 27, 28, 29, 30, 31, 32, 33, 34, 35, 36, 37, 38, 39, 40, 41, 42, 43, 44, 45, 46, 47, 48, 49, 50, 51, 52, 53, 54, 55, 56, 57, 58, 59, 60, 61, 62, 63, 64, 65, 66, 67, 68, 69, 70, 71, 72, 73, 74, 75, 76, 77, 78, 79, 80, 81, 82, 83, 84, 85, 86, 87, 88, 89, 90, 91, 92] rfl
                      have hD : va_D ((fun q : Nat => s.heap.size ≤ q)) (cDk a cI cC cS ((f_X5_path Gn43 0 0 (-2)).2)) := hD.sub [0, 1, 2, 3, 4, 5, 6, 7, 8, 9, 10, 11, 12, 13, 14, 15, 16, 17, 18, 19, 20, 21, 22, 23, 24, 25, 26, 27, 28, 29, 30, 31, 32, 33, 34, 35, 36, 37, 38, 39, 40, 41, 42, 43, 44, 45, 46, 47, 48, 49, 50, 51, 52, 53, 54, 55, 56, 57, 58, 59, 60, 61, 62, 63, 64, 65, 66, 67, 68, 69, 70, 71, 72, 73, 74, 75, 76, 77, 78, 79, 80, 81, 82, 83, 84, 85, 86, 87, 88, 89, 90, 91, 92] (by decide) rfl
                      obtain ⟨Gn49, eGn49⟩ : ∃ z : GR, z = (f_X5_path Gn43 0 0 (-2)).2 := ⟨_, rfl⟩
                      rw [sLet_eq, ← eGn49] at hR
                      rw [← eGn49] at hP hD
                      have hG50 : WFG Gn49 := by rw [eGn49]; exact hens48
                      refine lv_iconst (v := (-1)) hx hb dL_law_394 (by decide) ?_
                      refine lv_icmp_ne (tgt := 407) hx hb dL_law_395 (by decide) (fun c51 => ?_) (fun c51 => ?_)
                      · rw [if_neg c51] at hR
                        refine lv_iconst (v := 0) hx hb dL_law_407 (by decide) ?_
                        exact absurd (h1.symm.trans (congrArg Prod.fst hR)) (show ¬ (1 : Int32) = 0 by decide)
                      · rw [if_pos c51] at hR
                        refine lv_aload_n hx hb dL_law_398 rfl (lv_at hl 2 rfl) ?_
                        have hPc : va_P (dC, dI) vwCl (cDk a cI cC cS Gn49) H47 := hP.sub [0, 1, 2, 3, 4, 5, 6, 7, 8, 9, 10, 11, 12, 13, 14, 15, 16, 17, 18, 19, 20, 21, 22, 23, 24, 25, 26, 27, 28, 29, 30, 31, 32, 33, 34, 35, 36, 37, 38, 39, 40, 41, 42, 43, 44, 45, 46, 47, 48, 49, 50, 51, 52, 53, 54, 55, 56, 57, 58, 59, 60, 61, 62, 63, 64, 65, 66, 67, 68, 69, 70, 71, 72, 73, 74, 75, 76, 77, 78, 79, 80, 81, 82, 83, 84, 85, 86, 87, 88, 89, 90, 91, 92] rfl
                        have hDc : va_D ((fun q : Nat => s.heap.size ≤ q)) (cDk a cI cC cS Gn49) := hD.sub [0, 1, 2, 3, 4, 5, 6, 7, 8, 9, 10, 11, 12, 13, 14, 15, 16, 17, 18, 19, 20, 21, 22, 23, 24, 25, 26, 27, 28, 29, 30, 31, 32, 33, 34, 35, 36, 37, 38, 39, 40, 41, 42, 43, 44, 45, 46, 47, 48, 49, 50, 51, 52, 53, 54, 55, 56, 57, 58, 59, 60, 61, 62, 63, 64, 65, 66, 67, 68, 69, 70, 71, 72, 73, 74, 75, 76, 77, 78, 79, 80, 81, 82, 83, 84, 85, 86, 87, 88, 89, 90, 91, 92] (by decide) rfl
                        have hFc : ∀ q : Nat, va_A [] H47.size q → (fun q : Nat => s.heap.size ≤ q) q := roF hS hA
                        refine va_calll (va_runS (As := [.ref (a 0)]) (rest := []) ⟨hx, hb, hml, hown, hts⟩ (c_L_digest l dC dI cI cC cS a Gn49 H47.size hG50) (va_cwS 1 hts gL_law_L_digest rfl rfl rfl (by decide +kernel) ⟨Nat.le_of_ble_eq_true rfl, Nat.le_of_ble_eq_true rfl⟩) (pSS hK hPc hDc hN hT hS hFc) rfl rfl hl.1 rfl (lv_room (Nat.le_of_ble_eq_true rfl)) dL_law_399 ⟨Nat.le_of_ble_eq_true rfl, Nat.le_of_ble_eq_true rfl⟩) hS (fun q _ h => hFc q h) hFc (fun r_52 u_52 t_52 H53 locs ht hvm hw hB hz1 hk1 hS => ?_)
                        subst hw
                        have hP := ro_keep hP hk1
                        refine lv_lload_n hx hb dL_law_402 rfl (lv_at hl 0 rfl) ?_
                        refine W.lcmp hx hb dL_law_403 ?_
                        refine lv_if_eq (tgt := 409) hx hb dL_law_404 (by decide) (fun c54 => ?_) (fun c54 => ?_)
                        · rw [if_pos c54] at hR
                          refine lv_aload_n hx hb dL_law_409 rfl (lv_at hl 2 rfl) ?_
                          have hPc : va_P (dC, dI) vwCl (cDk a cI cC cS Gn49) H53 := hP.sub [0, 1, 2, 3, 4, 5, 6, 7, 8, 9, 10, 11, 12, 13, 14, 15, 16, 17, 18, 19, 20, 21, 22, 23, 24, 25, 26, 27, 28, 29, 30, 31, 32, 33, 34, 35, 36, 37, 38, 39, 40, 41, 42, 43, 44, 45, 46, 47, 48, 49, 50, 51, 52, 53, 54, 55, 56, 57, 58, 59, 60, 61, 62, 63, 64, 65, 66, 67, 68, 69, 70, 71, 72, 73, 74, 75, 76, 77, 78, 79, 80, 81, 82, 83, 84, 85, 86, 87, 88, 89, 90, 91, 92] rfl
                          have hDc : va_D ((fun q : Nat => s.heap.size ≤ q)) (cDk a cI cC cS Gn49) := hD.sub [0, 1, 2, 3, 4, 5, 6, 7, 8, 9, 10, 11, 12, 13, 14, 15, 16, 17, 18, 19, 20, 21, 22, 23, 24, 25, 26, 27, 28, 29, 30, 31, 32, 33, 34, 35, 36, 37, 38, 39, 40, 41, 42, 43, 44, 45, 46, 47, 48, 49, 50, 51, 52, 53, 54, 55, 56, 57, 58, 59, 60, 61, 62, 63, 64, 65, 66, 67, 68, 69, 70, 71, 72, 73, 74, 75, 76, 77, 78, 79, 80, 81, 82, 83, 84, 85, 86, 87, 88, 89, 90, 91, 92] (by decide) rfl
                          have hFc : ∀ q : Nat, va_A (cDk a cI cC cS Gn49) H53.size q → (fun q : Nat => s.heap.size ≤ q) q := va_free hD hS hA [0, 1, 2, 3, 4, 5, 6, 7, 8, 9, 10, 11, 12, 13, 14, 15, 16, 17, 18, 19, 20, 21, 22, 23, 24, 25, 26, 27, 28, 29, 30, 31, 32, 33, 34, 35, 36, 37, 38, 39, 40, 41, 42, 43, 44, 45, 46, 47, 48, 49, 50, 51, 52, 53, 54, 55, 56, 57, 58, 59, 60, 61, 62, 63, 64, 65, 66, 67, 68, 69, 70, 71, 72, 73, 74, 75, 76, 77, 78, 79, 80, 81, 82, 83, 84, 85, 86, 87, 88, 89, 90, 91, 92] rfl
                          refine va_calli (va_runV (As := []) (rest := []) ⟨hx, hb, hml, hown, hts⟩ (c_X5_load l dC dI cI cC cS a Gn49 H53.size hG50) (cwV 0 hts gL_law_X5_load rfl rfl rfl (by decide +kernel) ⟨Nat.le_of_ble_eq_true rfl, Nat.le_of_ble_eq_true rfl⟩) (pVS (q0 := 0) hK hPc hDc hN hT hS hFc rfl rfl) rfl rfl hl.1 rfl (lv_room (Nat.le_of_ble_eq_true rfl)) dL_law_410 ⟨Nat.le_of_ble_eq_true rfl, Nat.le_of_ble_eq_true rfl⟩) hS (fun q _ h => hFc q h) hFc (fun r_55 u_55 t_55 H56 locs ht hvm hw hB hz1 hk1 hS => ?_)
                          obtain ⟨hw, hens57⟩ := hw
                          obtain ⟨hP1, hD1⟩ := hB
                          rw [ht] at hP1
                          have hw1 : r_55 = (f_X5_load Gn49).1 := congrArg Prod.fst hw
                          have hw2 : u_55 = (f_X5_load Gn49).2 := congrArg Prod.snd hw
                          clear hw
                          subst hw1
                          rw [hw2] at hP1 hD1 hens57
                          obtain ⟨hP, hD⟩ := va_join (wc := cDk a cI cC cS Gn49) (wr := []) (w1 := cDk a cI cC cS ((f_X5_load Gn49).2)) hP hD [0, 1, 2, 3, 4, 5, 6, 7, 8, 9, 10, 11, 12, 13, 14, 15, 16, 17, 18, 19, 20, 21, 22, 23, 24, 25, 26, 27, 28, 29, 30, 31, 32, 33, 34, 35, 36, 37, 38, 39, 40, 41, 42, 43, 44, 45, 46, 47, 48, 49, 50, 51, 52, 53, 54, 55, 56, 57, 58, 59, 60, 61, 62, 63, 64, 65, 66, 67, 68, 69, 70, 71, 72, 73, 74, 75, 76, 77, 78, 79, 80, 81, 82, 83, 84, 85, 86, 87, 88, 89, 90, 91, 92] [] rfl rfl (by decide) (by decide) hk1 hFc hP1 hD1
                          have hP : va_P (dC, dI) vwCl (cDk a cI cC cS ((f_X5_load Gn49).2)) H56 := hP.sub [0, 1, 2, 3, 4, 5, 6, 7, 8, 9, 10, 11, 12, 13, 14, 15, 16, 17, 18, 19, 20, 21, 22, 23, 24, 25, 26, 27, 28, 29, 30, 31, 32, 33, 34, 35, 36, 37, 38, 39, 40, 41, 42, 43, 44, 45, 46, 47, 48, 49, 50, 51, 52, 53, 54, 55, 56, 57, 58, 59, 60, 61, 62, 63, 64, 65, 66, 67, 68, 69, 70, 71, 72, 73, 74, 75, 76, 77, 78, 79, 80, 81, 82, 83, 84, 85, 86, 87, 88, 89, 90, 91, 92] rfl
                          have hD : va_D ((fun q : Nat => s.heap.size ≤ q)) (cDk a cI cC cS ((f_X5_load Gn49).2)) := hD.sub [0, 1, 2, 3, 4, 5, 6, 7, 8, 9, 10, 11, 12, 13, 14, 15, 16, 17, 18, 19, 20, 21, 22, 23, 24, 25, 26, 27, 28, 29, 30, 31, 32, 33, 34, 35, 36, 37, 38, 39, 40, 41, 42, 43, 44, 45, 46, 47, 48, 49, 50, 51, 52, 53, 54, 55, 56, 57, 58, 59, 60, 61, 62, 63, 64, 65, 66, 67, 68, 69, 70, 71, 72, 73, 74, 75, 76, 77, 78, 79, 80, 81, 82, 83, 84, 85, 86, 87, 88, 89, 90, 91, 92] (by decide) rfl
                          obtain ⟨Gn58, eGn58⟩ : ∃ z : GR, z = (f_X5_load Gn49).2 := ⟨_, rfl⟩
                          rw [sLet_eq, ← eGn58] at hR
                          rw [← eGn58] at hP hD
                          have hG59 : WFG Gn58 := by rw [eGn58]; exact hens57
                          refine lv_if_ne (tgt := 448) hx hb dL_law_413 (by decide) (fun c60 => ?_) (fun c60 => ?_)
                          · rw [if_neg c60] at hR
                            refine lv_iconst (v := 0) hx hb dL_law_448 (by decide) ?_
                            exact absurd (h1.symm.trans (congrArg Prod.fst hR)) (show ¬ (1 : Int32) = 0 by decide)
                          · rw [if_pos c60] at hR
                            refine lv_aload_n hx hb dL_law_416 rfl (lv_at hl 2 rfl) ?_
                            have hPc : va_P (dC, dI) vwCl (cDk a cI cC cS Gn58) H56 := hP.sub [0, 1, 2, 3, 4, 5, 6, 7, 8, 9, 10, 11, 12, 13, 14, 15, 16, 17, 18, 19, 20, 21, 22, 23, 24, 25, 26, 27, 28, 29, 30, 31, 32, 33, 34, 35, 36, 37, 38, 39, 40, 41, 42, 43, 44, 45, 46, 47, 48, 49, 50, 51, 52, 53, 54, 55, 56, 57, 58, 59, 60, 61, 62, 63, 64, 65, 66, 67, 68, 69, 70, 71, 72, 73, 74, 75, 76, 77, 78, 79, 80, 81, 82, 83, 84, 85, 86, 87, 88, 89, 90, 91, 92] rfl
                            have hDc : va_D ((fun q : Nat => s.heap.size ≤ q)) (cDk a cI cC cS Gn58) := hD.sub [0, 1, 2, 3, 4, 5, 6, 7, 8, 9, 10, 11, 12, 13, 14, 15, 16, 17, 18, 19, 20, 21, 22, 23, 24, 25, 26, 27, 28, 29, 30, 31, 32, 33, 34, 35, 36, 37, 38, 39, 40, 41, 42, 43, 44, 45, 46, 47, 48, 49, 50, 51, 52, 53, 54, 55, 56, 57, 58, 59, 60, 61, 62, 63, 64, 65, 66, 67, 68, 69, 70, 71, 72, 73, 74, 75, 76, 77, 78, 79, 80, 81, 82, 83, 84, 85, 86, 87, 88, 89, 90, 91, 92] (by decide) rfl
                            have hFc : ∀ q : Nat, va_A [] H56.size q → (fun q : Nat => s.heap.size ≤ q) q := roF hS hA
                            refine va_calll (va_runS (As := [.ref (a 0)]) (rest := []) ⟨hx, hb, hml, hown, hts⟩ (c_L_digest l dC dI cI cC cS a Gn58 H56.size hG59) (va_cwS 1 hts gL_law_L_digest rfl rfl rfl (by decide +kernel) ⟨Nat.le_of_ble_eq_true rfl, Nat.le_of_ble_eq_true rfl⟩) (pSS hK hPc hDc hN hT hS hFc) rfl rfl hl.1 rfl (lv_room (Nat.le_of_ble_eq_true rfl)) dL_law_417 ⟨Nat.le_of_ble_eq_true rfl, Nat.le_of_ble_eq_true rfl⟩) hS (fun q _ h => hFc q h) hFc (fun r_61 u_61 t_61 H62 locs ht hvm hw hB hz1 hk1 hS => ?_)
                            subst hw
                            have hP := ro_keep hP hk1
                            refine lv_lload_n hx hb dL_law_420 rfl (lv_at hl 0 rfl) ?_
                            refine W.lcmp hx hb dL_law_421 ?_
                            refine lv_if_ne (tgt := 448) hx hb dL_law_422 (by decide) (fun c63 => ?_) (fun c63 => ?_)
                            · rw [if_neg c63] at hR
                              refine lv_iconst (v := 0) hx hb dL_law_448 (by decide) ?_
                              exact absurd (h1.symm.trans (congrArg Prod.fst hR)) (show ¬ (1 : Int32) = 0 by decide)
                            · rw [if_pos c63] at hR
                              refine lv_aload_n hx hb dL_law_425 rfl (lv_at hl 2 rfl) ?_
                              refine lv_bipush (v := 11) hx hb dL_law_426 (by decide) ?_
                              have hPc : va_P (dC, dI) vwCl (cDk a cI cC cS Gn58) H62 := hP.sub [0, 1, 2, 3, 4, 5, 6, 7, 8, 9, 10, 11, 12, 13, 14, 15, 16, 17, 18, 19, 20, 21, 22, 23, 24, 25, 26, 27, 28, 29, 30, 31, 32, 33, 34, 35, 36, 37, 38, 39, 40, 41, 42, 43, 44, 45, 46, 47, 48, 49, 50, 51, 52, 53, 54, 55, 56, 57, 58, 59, 60, 61, 62, 63, 64, 65, 66, 67, 68, 69, 70, 71, 72, 73, 74, 75, 76, 77, 78, 79, 80, 81, 82, 83, 84, 85, 86, 87, 88, 89, 90, 91, 92] rfl
                              have hDc : va_D ((fun q : Nat => s.heap.size ≤ q)) (cDk a cI cC cS Gn58) := hD.sub [0, 1, 2, 3, 4, 5, 6, 7, 8, 9, 10, 11, 12, 13, 14, 15, 16, 17, 18, 19, 20, 21, 22, 23, 24, 25, 26, 27, 28, 29, 30, 31, 32, 33, 34, 35, 36, 37, 38, 39, 40, 41, 42, 43, 44, 45, 46, 47, 48, 49, 50, 51, 52, 53, 54, 55, 56, 57, 58, 59, 60, 61, 62, 63, 64, 65, 66, 67, 68, 69, 70, 71, 72, 73, 74, 75, 76, 77, 78, 79, 80, 81, 82, 83, 84, 85, 86, 87, 88, 89, 90, 91, 92] (by decide) rfl
                              have hFc : ∀ q : Nat, va_A [] H62.size q → (fun q : Nat => s.heap.size ≤ q) q := roF hS hA
                              refine va_calli (va_runV (As := [.int 11]) (rest := []) ⟨hx, hb, hml, hown, hts⟩ (c_X5_count l dC dI cI cC cS a Gn58 H62.size 11 hG59) (cwV 1 hts gL_law_X5_count rfl rfl rfl (by decide +kernel) ⟨Nat.le_of_ble_eq_true rfl, Nat.le_of_ble_eq_true rfl⟩) (pV (q0 := 0) hK hPc hDc hN rfl rfl) rfl rfl hl.1 rfl (lv_room (Nat.le_of_ble_eq_true rfl)) dL_law_428 ⟨Nat.le_of_ble_eq_true rfl, Nat.le_of_ble_eq_true rfl⟩) hS (fun q _ h => hFc q h) hFc (fun r_64 u_64 t_64 H65 locs ht hvm hw hB hz1 hk1 hS => ?_)
                              subst hw
                              have hP := ro_keep hP hk1
                              refine lv_iconst (v := (-1)) hx hb dL_law_431 (by decide) ?_
                              refine lv_icmp_ne (tgt := 448) hx hb dL_law_432 (by decide) (fun c66 => ?_) (fun c66 => ?_)
                              · rw [if_neg c66] at hR
                                refine lv_iconst (v := 0) hx hb dL_law_448 (by decide) ?_
                                exact absurd (h1.symm.trans (congrArg Prod.fst hR)) (show ¬ (1 : Int32) = 0 by decide)
                              · rw [if_pos c66] at hR
                                refine lv_aload_n hx hb dL_law_435 rfl (lv_at hl 2 rfl) ?_
                                refine lv_iconst (v := 4) hx hb dL_law_436 (by decide) ?_
                                have hPc : va_P (dC, dI) vwCl (cDk a cI cC cS Gn58) H65 := hP.sub [0, 1, 2, 3, 4, 5, 6, 7, 8, 9, 10, 11, 12, 13, 14, 15, 16, 17, 18, 19, 20, 21, 22, 23, 24, 25, 26, 27, 28, 29, 30, 31, 32, 33, 34, 35, 36, 37, 38, 39, 40, 41, 42, 43, 44, 45, 46, 47, 48, 49, 50, 51, 52, 53, 54, 55, 56, 57, 58, 59, 60, 61, 62, 63, 64, 65, 66, 67, 68, 69, 70, 71, 72, 73, 74, 75, 76, 77, 78, 79, 80, 81, 82, 83, 84, 85, 86, 87, 88, 89, 90, 91, 92] rfl
                                have hDc : va_D ((fun q : Nat => s.heap.size ≤ q)) (cDk a cI cC cS Gn58) := hD.sub [0, 1, 2, 3, 4, 5, 6, 7, 8, 9, 10, 11, 12, 13, 14, 15, 16, 17, 18, 19, 20, 21, 22, 23, 24, 25, 26, 27, 28, 29, 30, 31, 32, 33, 34, 35, 36, 37, 38, 39, 40, 41, 42, 43, 44, 45, 46, 47, 48, 49, 50, 51, 52, 53, 54, 55, 56, 57, 58, 59, 60, 61, 62, 63, 64, 65, 66, 67, 68, 69, 70, 71, 72, 73, 74, 75, 76, 77, 78, 79, 80, 81, 82, 83, 84, 85, 86, 87, 88, 89, 90, 91, 92] (by decide) rfl
                                have hFc : ∀ q : Nat, va_A (cDk a cI cC cS Gn58) H65.size q → (fun q : Nat => s.heap.size ≤ q) q := va_free hD hS hA [0, 1, 2, 3, 4, 5, 6, 7, 8, 9, 10, 11, 12, 13, 14, 15, 16, 17, 18, 19, 20, 21, 22, 23, 24, 25, 26, 27, 28, 29, 30, 31, 32, 33, 34, 35, 36, 37, 38, 39, 40, 41, 42, 43, 44, 45, 46, 47, 48, 49, 50, 51, 52, 53, 54, 55, 56, 57, 58, 59, 60, 61, 62, 63, 64, 65, 66, 67, 68, 69, 70, 71, 72, 73, 74, 75, 76, 77, 78, 79, 80, 81, 82, 83, 84, 85, 86, 87, 88, 89, 90, 91, 92] rfl
                                refine va_calli (va_runV (As := [.int 4]) (rest := []) ⟨hx, hb, hml, hown, hts⟩ (c_X5_cut l dC dI cI cC cS a Gn58 H65.size 4 hG59) (cwV 1 hts gL_law_X5_cut rfl rfl rfl (by decide +kernel) ⟨Nat.le_of_ble_eq_true rfl, Nat.le_of_ble_eq_true rfl⟩) (pV (q0 := 0) hK hPc hDc hN rfl rfl) rfl rfl hl.1 rfl (lv_room (Nat.le_of_ble_eq_true rfl)) dL_law_437 ⟨Nat.le_of_ble_eq_true rfl, Nat.le_of_ble_eq_true rfl⟩) hS (fun q _ h => hFc q h) hFc (fun r_67 u_67 t_67 H68 locs ht hvm hw hB hz1 hk1 hS => ?_)
                                obtain ⟨hw, hens69⟩ := hw
                                obtain ⟨hP1, hD1⟩ := hB
                                rw [ht] at hP1
                                have hw1 : r_67 = (f_X5_cut Gn58 4).1 := congrArg Prod.fst hw
                                have hw2 : u_67 = (f_X5_cut Gn58 4).2 := congrArg Prod.snd hw
                                clear hw
                                subst hw1
                                rw [hw2] at hP1 hD1 hens69
                                obtain ⟨hP, hD⟩ := va_join (wc := cDk a cI cC cS Gn58) (wr := []) (w1 := cDk a cI cC cS ((f_X5_cut Gn58 4).2)) hP hD [0, 1, 2, 3, 4, 5, 6, 7, 8, 9, 10, 11, 12, 13, 14, 15, 16, 17, 18, 19, 20, 21, 22, 23, 24, 25, 26, 27, 28, 29, 30, 31, 32, 33, 34, 35, 36, 37, 38, 39, 40, 41, 42, 43, 44, 45, 46, 47, 48, 49, 50, 51, 52, 53, 54, 55, 56, 57, 58, 59, 60, 61, 62, 63, 64, 65, 66, 67, 68, 69, 70, 71, 72, 73, 74, 75, 76, 77, 78, 79, 80, 81, 82, 83, 84, 85, 86, 87, 88, 89, 90, 91, 92] [] rfl rfl (by decide) (by decide) hk1 hFc hP1 hD1
                                have hP : va_P (dC, dI) vwCl (cDk a cI cC cS ((f_X5_cut Gn58 4).2)) H68 := hP.sub [0, 1, 2, 3, 4, 5, 6, 7, 8, 9, 10, 11, 12, 13, 14, 15, 16, 17, 18, 19, 20, 21, 22, 23, 24, 25, 26, 27, 28, 29, 30, 31, 32, 33, 34, 35, 36, 37, 38, 39, 40, 41, 42, 43, 44, 45, 46, 47, 48, 49, 50, 51, 52, 53, 54, 55, 56, 57, 58, 59, 60, 61, 62, 63, 64, 65, 66, 67, 68, 69, 70, 71, 72, 73, 74, 75, 76, 77, 78, 79, 80, 81, 82, 83, 84, 85, 86, 87, 88, 89, 90, 91, 92] rfl
                                have hD : va_D ((fun q : Nat => s.heap.size ≤ q)) (cDk a cI cC cS ((f_X5_cut Gn58 4).2)) := hD.sub [0, 1, 2, 3, 4, 5, 6, 7, 8, 9, 10, 11, 12, 13, 14, 15, 16, 17, 18, 19, 20, 21, 22, 23, 24, 25, 26, 27, 28, 29, 30, 31, 32, 33, 34, 35, 36, 37, 38, 39, 40, 41, 42, 43, 44, 45, 46, 47, 48, 49, 50, 51, 52, 53, 54, 55, 56, 57, 58, 59, 60, 61, 62, 63, 64, 65, 66, 67, 68, 69, 70, 71, 72, 73, 74, 75, 76, 77, 78, 79, 80, 81, 82, 83, 84, 85, 86, 87, 88, 89, 90, 91, 92] (by decide) rfl
                                obtain ⟨Gn70, eGn70⟩ : ∃ z : GR, z = (f_X5_cut Gn58 4).2 := ⟨_, rfl⟩
                                rw [sLet_eq, ← eGn70] at hR
                                rw [← eGn70] at hP hD
                                have hG71 : WFG Gn70 := by rw [eGn70]; exact hens69
                                refine lv_iconst (v := (-1)) hx hb dL_law_440 (by decide) ?_
                                refine lv_icmp_ne (tgt := 448) hx hb dL_law_441 (by decide) (fun c72 => ?_) (fun c72 => ?_)
                                · rw [if_neg c72] at hR
                                  refine lv_iconst (v := 0) hx hb dL_law_448 (by decide) ?_
                                  exact absurd (h1.symm.trans (congrArg Prod.fst hR)) (show ¬ (1 : Int32) = 0 by decide)
                                · rw [if_pos c72] at hR
                                  refine lv_iconst (v := 1) hx hb dL_law_444 (by decide) ?_
                                  refine lv_goto (tgt := 449) hx hb dL_law_445 (by decide) ?_
                                  refine va_forget (fun q hq => hS.2.2 q hq) ?_
                                  refine W.widen (k := 600000) (n := 7302250) (Nat.le_of_ble_eq_true rfl) (Nat.le_of_ble_eq_true rfl) ?_
                                  exact lw_ret hx hb hr hlocks dL_law_449
                        · rw [if_neg c54] at hR
                          refine lv_iconst (v := 0) hx hb dL_law_407 (by decide) ?_
                          exact absurd (h1.symm.trans (congrArg Prod.fst hR)) (show ¬ (1 : Int32) = 0 by decide)
      · rw [if_neg c1] at hR
        have hj_10 : j_10 < 18 := lp_ge ex2_10 (by decide +kernel) (by omega) (by omega) c1
        refine lv_aload_n hx hb dL_law_16 rfl (lv_at hl 0 rfl) ?_
        refine lv_iload_n hx hb dL_law_17 rfl (lv_at hl 2 rfl) ?_
        have hFc : ∀ q : Nat, va_A [] H.size q → (fun q : Nat => s.heap.size ≤ q) q := roF hS hA
        refine va_calli (va_runS (As := [.ref (b), .int x2_10]) (rest := []) ⟨hx, hb, hml, hown, hts⟩ (c_L_cell l dC dI cI cC cS b L xs hL31 H.size x2_10 (by rw [ex2_10]; exact vp_of_B (ix_11 j_10 hj_10))) (va_cwS 2 hts gL_law_L_cell rfl rfl rfl (by decide +kernel) ⟨Nat.le_of_ble_eq_true rfl, Nat.le_of_ble_eq_true rfl⟩) (pX hK hN hTb hS hFc) rfl rfl hl.1 rfl (lv_room (Nat.le_of_ble_eq_true rfl)) dL_law_18 ⟨Nat.le_of_ble_eq_true rfl, Nat.le_of_ble_eq_true rfl⟩) hS (fun q _ h => hFc q h) hFc (fun r_73 u_73 t_73 H74 locs ht hvm hw hB hz1 hk1 hS => ?_)
        subst hw
        have hP := ro_keep hP hk1
        refine lv_istore_n (lv' := [(3, .int (f_L_cell L xs x2_10)), (0, .ref (b)), (1, .ref (a 0)), (2, .int x2_10)]) hx hb dL_law_21 rfl hl (by decide) rfl (fun ls hl => ?_)
        refine lv_aload_n hx hb dL_law_22 rfl (lv_at hl 2 rfl) ?_
        have hPc : va_P (dC, dI) vwCl (cDk a cI cC cS G_10) H74 := hP.sub [0, 1, 2, 3, 4, 5, 6, 7, 8, 9, 10, 11, 12, 13, 14, 15, 16, 17, 18, 19, 20, 21, 22, 23, 24, 25, 26, 27, 28, 29, 30, 31, 32, 33, 34, 35, 36, 37, 38, 39, 40, 41, 42, 43, 44, 45, 46, 47, 48, 49, 50, 51, 52, 53, 54, 55, 56, 57, 58, 59, 60, 61, 62, 63, 64, 65, 66, 67, 68, 69, 70, 71, 72, 73, 74, 75, 76, 77, 78, 79, 80, 81, 82, 83, 84, 85, 86, 87, 88, 89, 90, 91, 92] rfl
        have hDc : va_D ((fun q : Nat => s.heap.size ≤ q)) (cDk a cI cC cS G_10) := hD.sub [0, 1, 2, 3, 4, 5, 6, 7, 8, 9, 10, 11, 12, 13, 14, 15, 16, 17, 18, 19, 20, 21, 22, 23, 24, 25, 26, 27, 28, 29, 30, 31, 32, 33, 34, 35, 36, 37, 38, 39, 40, 41, 42, 43, 44, 45, 46, 47, 48, 49, 50, 51, 52, 53, 54, 55, 56, 57, 58, 59, 60, 61, 62, 63, 64, 65, 66, 67, 68, 69, 70, 71, 72, 73, 74, 75, 76, 77, 78, 79, 80, 81, 82, 83, 84, 85, 86, 87, 88, 89, 90, 91, 92] (by decide) rfl
        have hFc : ∀ q : Nat, va_A [] H74.size q → (fun q : Nat => s.heap.size ≤ q) q := roF hS hA
        refine va_calll (va_runS (As := [.ref (a 0)]) (rest := []) ⟨hx, hb, hml, hown, hts⟩ (c_L_digest l dC dI cI cC cS a G_10 H74.size hG_10) (va_cwS 1 hts gL_law_L_digest rfl rfl rfl (by decide +kernel) ⟨Nat.le_of_ble_eq_true rfl, Nat.le_of_ble_eq_true rfl⟩) (pSS hK hPc hDc hN hT hS hFc) rfl rfl hl.1 rfl (lv_room (Nat.le_of_ble_eq_true rfl)) dL_law_23 ⟨Nat.le_of_ble_eq_true rfl, Nat.le_of_ble_eq_true rfl⟩) hS (fun q _ h => hFc q h) hFc (fun r_75 u_75 t_75 H76 locs ht hvm hw hB hz1 hk1 hS => ?_)
        subst hw
        have hP := ro_keep hP hk1
        refine lv_lstore (lv' := [(4, .long (f_L_digest G_10)), (3, .int (f_L_cell L xs x2_10)), (0, .ref (b)), (1, .ref (a 0)), (2, .int x2_10)]) hx hb dL_law_26 hl (by decide) rfl (fun ls hl => ?_)
        refine lv_iload_n hx hb dL_law_28 rfl (lv_at hl 1 rfl) ?_
        refine lv_bipush (v := 6) hx hb dL_law_29 (by decide) ?_
        refine lv_ishr hx hb dL_law_31 ?_
        refine lv_iconst (v := 3) hx hb dL_law_32 (by decide) ?_
        refine lv_iand hx hb dL_law_33 ?_
        refine lv_istore (lv' := [(6, .int (((f_L_cell L xs x2_10) >>> (6 &&& 31)) &&& 3)), (4, .long (f_L_digest G_10)), (3, .int (f_L_cell L xs x2_10)), (0, .ref (b)), (1, .ref (a 0)), (2, .int x2_10)]) hx hb dL_law_34 hl (by decide) rfl (fun ls hl => ?_)
        refine lv_iconst (v := 1) hx hb dL_law_36 (by decide) ?_
        refine lv_iload_n hx hb dL_law_37 rfl (lv_at hl 2 rfl) ?_
        refine lv_iconst (v := 4) hx hb dL_law_38 (by decide) ?_
        refine lv_ishr hx hb dL_law_39 ?_
        refine lv_bipush (v := 9) hx hb dL_law_40 (by decide) ?_
        have hFc : ∀ q : Nat, va_A [] H76.size q → (fun q : Nat => s.heap.size ≤ q) q := roF hS hA
        refine va_calli (va_runS (As := [.int ((f_L_cell L xs x2_10) >>> (4 &&& 31)), .int 9]) (rest := [.int 1]) ⟨hx, hb, hml, hown, hts⟩ (c_L_low l dC dI cI cC cS H76.size ((f_L_cell L xs x2_10) >>> (4 &&& 31)) 9 (by decide)) (va_cwS 2 hts gL_law_L_low rfl rfl rfl (by decide +kernel) ⟨Nat.le_of_ble_eq_true rfl, Nat.le_of_ble_eq_true rfl⟩) (pS hK (va_P_nil) (va_D_nil) hN) rfl rfl hl.1 rfl (lv_room (Nat.le_of_ble_eq_true rfl)) dL_law_42 ⟨Nat.le_of_ble_eq_true rfl, Nat.le_of_ble_eq_true rfl⟩) hS (fun q _ h => hFc q h) hFc (fun r_77 u_77 t_77 H78 locs ht hvm hw hB hz1 hk1 hS => ?_)
        subst hw
        have hP := ro_keep hP hk1
        refine lv_iadd hx hb dL_law_45 ?_
        refine lv_istore (lv' := [(7, .int ((1 : Int32) + (f_L_low ((f_L_cell L xs x2_10) >>> (4 &&& 31)) 9))), (6, .int (((f_L_cell L xs x2_10) >>> (6 &&& 31)) &&& 3)), (4, .long (f_L_digest G_10)), (3, .int (f_L_cell L xs x2_10)), (0, .ref (b)), (1, .ref (a 0)), (2, .int x2_10)]) hx hb dL_law_46 hl (by decide) rfl (fun ls hl => ?_)
        refine lv_aload_n hx hb dL_law_48 rfl (lv_at hl 5 rfl) ?_
        refine lv_iload hx hb dL_law_49 (lv_at hl 1 rfl) ?_
        refine lv_iload hx hb dL_law_51 (lv_at hl 0 rfl) ?_
        have hPc : va_P (dC, dI) vwCl (cDk a cI cC cS G_10) H78 := hP.sub [0, 1, 2, 3, 4, 5, 6, 7, 8, 9, 10, 11, 12, 13, 14, 15, 16, 17, 18, 19, 20, 21, 22, 23, 24, 25, 26, 27, 28, 29, 30, 31, 32, 33, 34, 35, 36, 37, 38, 39, 40, 41, 42, 43, 44, 45, 46, 47, 48, 49, 50, 51, 52, 53, 54, 55, 56, 57, 58, 59, 60, 61, 62, 63, 64, 65, 66, 67, 68, 69, 70, 71, 72, 73, 74, 75, 76, 77, 78, 79, 80, 81, 82, 83, 84, 85, 86, 87, 88, 89, 90, 91, 92] rfl
        have hDc : va_D ((fun q : Nat => s.heap.size ≤ q)) (cDk a cI cC cS G_10) := hD.sub [0, 1, 2, 3, 4, 5, 6, 7, 8, 9, 10, 11, 12, 13, 14, 15, 16, 17, 18, 19, 20, 21, 22, 23, 24, 25, 26, 27, 28, 29, 30, 31, 32, 33, 34, 35, 36, 37, 38, 39, 40, 41, 42, 43, 44, 45, 46, 47, 48, 49, 50, 51, 52, 53, 54, 55, 56, 57, 58, 59, 60, 61, 62, 63, 64, 65, 66, 67, 68, 69, 70, 71, 72, 73, 74, 75, 76, 77, 78, 79, 80, 81, 82, 83, 84, 85, 86, 87, 88, 89, 90, 91, 92] (by decide) rfl
        have hFc : ∀ q : Nat, va_A (cDk a cI cC cS G_10) H78.size q → (fun q : Nat => s.heap.size ≤ q) q := va_free hD hS hA [0, 1, 2, 3, 4, 5, 6, 7, 8, 9, 10, 11, 12, 13, 14, 15, 16, 17, 18, 19, 20, 21, 22, 23, 24, 25, 26, 27, 28, 29, 30, 31, 32, 33, 34, 35, 36, 37, 38, 39, 40, 41, 42, 43, 44, 45, 46, 47, 48, 49, 50, 51, 52, 53, 54, 55, 56, 57, 58, 59, 60, 61, 62, 63, 64, 65, 66, 67, 68, 69, 70, 71, 72, 73, 74, 75, 76, 77, 78, 79, 80, 81, 82, 83, 84, 85, 86, 87, 88, 89, 90, 91, 92] rfl
        refine va_calli (va_runV (As := [.int (((f_L_cell L xs x2_10) >>> (6 &&& 31)) &&& 3), .int ((1 : Int32) + (f_L_low ((f_L_cell L xs x2_10) >>> (4 &&& 31)) 9))]) (rest := []) ⟨hx, hb, hml, hown, hts⟩ (c_X5_outputIn l dC dI cI cC cS a G_10 H78.size (((f_L_cell L xs x2_10) >>> (6 &&& 31)) &&& 3) ((1 : Int32) + (f_L_low ((f_L_cell L xs x2_10) >>> (4 &&& 31)) 9)) hG_10) (cwV 2 hts gL_law_X5_outputIn rfl rfl rfl (by decide +kernel) ⟨Nat.le_of_ble_eq_true rfl, Nat.le_of_ble_eq_true rfl⟩) (pV (q0 := 0) hK hPc hDc hN rfl rfl) rfl rfl hl.1 rfl (lv_room (Nat.le_of_ble_eq_true rfl)) dL_law_53 ⟨Nat.le_of_ble_eq_true rfl, Nat.le_of_ble_eq_true rfl⟩) hS (fun q _ h => hFc q h) hFc (fun r_79 u_79 t_79 H80 locs ht hvm hw hB hz1 hk1 hS => ?_)
        obtain ⟨hw, hens81⟩ := hw
        obtain ⟨hP1, hD1⟩ := hB
        rw [ht] at hP1
        have hw1 : r_79 = (f_X5_outputIn G_10 (((f_L_cell L xs x2_10) >>> (6 &&& 31)) &&& 3) ((1 : Int32) + (f_L_low ((f_L_cell L xs x2_10) >>> (4 &&& 31)) 9))).1 := congrArg Prod.fst hw
        have hw2 : u_79 = (f_X5_outputIn G_10 (((f_L_cell L xs x2_10) >>> (6 &&& 31)) &&& 3) ((1 : Int32) + (f_L_low ((f_L_cell L xs x2_10) >>> (4 &&& 31)) 9))).2 := congrArg Prod.snd hw
        clear hw
        subst hw1
        rw [hw2] at hP1 hD1 hens81
        obtain ⟨hP, hD⟩ := va_join (wc := cDk a cI cC cS G_10) (wr := []) (w1 := cDk a cI cC cS ((f_X5_outputIn G_10 (((f_L_cell L xs x2_10) >>> (6 &&& 31)) &&& 3) ((1 : Int32) + (f_L_low ((f_L_cell L xs x2_10) >>> (4 &&& 31)) 9))).2)) hP hD [0, 1, 2, 3, 4, 5, 6, 7, 8, 9, 10, 11, 12, 13, 14, 15, 16, 17, 18, 19, 20, 21, 22, 23, 24, 25, 26, 27, 28, 29, 30, 31, 32, 33, 34, 35, 36, 37, 38, 39, 40, 41, 42, 43, 44, 45, 46, 47, 48, 49, 50, 51, 52, 53, 54, 55, 56, 57, 58, 59, 60, 61, 62, 63, 64, 65, 66, 67, 68, 69, 70, 71, 72, 73, 74, 75, 76, 77, 78, 79, 80, 81, 82, 83, 84, 85, 86, 87, 88, 89, 90, 91, 92] [] rfl rfl (by decide) (by decide) hk1 hFc hP1 hD1
        have hP : va_P (dC, dI) vwCl (cDk a cI cC cS ((f_X5_outputIn G_10 (((f_L_cell L xs x2_10) >>> (6 &&& 31)) &&& 3) ((1 : Int32) + (f_L_low ((f_L_cell L xs x2_10) >>> (4 &&& 31)) 9))).2)) H80 := hP.sub [0, 1, 2, 3, 4, 5, 6, 7, 8, 9, 10, 11, 12, 13, 14, 15, 16, 17, 18, 19, 20, 21, 22, 23, 24, 25, 26, 27, 28, 29, 30, 31, 32, 33, 34, 35, 36, 37, 38, 39, 40, 41, 42, 43, 44, 45, 46, 47, 48, 49, 50, 51, 52, 53, 54, 55, 56, 57, 58, 59, 60, 61, 62, 63, 64, 65, 66, 67, 68, 69, 70, 71, 72, 73, 74, 75, 76, 77, 78, 79, 80, 81, 82, 83, 84, 85, 86, 87, 88, 89, 90, 91, 92] rfl
        have hD : va_D ((fun q : Nat => s.heap.size ≤ q)) (cDk a cI cC cS ((f_X5_outputIn G_10 (((f_L_cell L xs x2_10) >>> (6 &&& 31)) &&& 3) ((1 : Int32) + (f_L_low ((f_L_cell L xs x2_10) >>> (4 &&& 31)) 9))).2)) := hD.sub [0, 1, 2, 3, 4, 5, 6, 7, 8, 9, 10, 11, 12, 13, 14, 15, 16, 17, 18, 19, 20, 21, 22, 23, 24, 25, 26, 27, 28, 29, 30, 31, 32, 33, 34, 35, 36, 37, 38, 39, 40, 41, 42, 43, 44, 45, 46, 47, 48, 49, 50, 51, 52, 53, 54, 55, 56, 57, 58, 59, 60, 61, 62, 63, 64, 65, 66, 67, 68, 69, 70, 71, 72, 73, 74, 75, 76, 77, 78, 79, 80, 81, 82, 83, 84, 85, 86, 87, 88, 89, 90, 91, 92] (by decide) rfl
        obtain ⟨Gn82, eGn82⟩ : ∃ z : GR, z = (f_X5_outputIn G_10 (((f_L_cell L xs x2_10) >>> (6 &&& 31)) &&& 3) ((1 : Int32) + (f_L_low ((f_L_cell L xs x2_10) >>> (4 &&& 31)) 9))).2 := ⟨_, rfl⟩
        rw [sLet_eq, ← eGn82] at hR
        rw [← eGn82] at hP hD
        have hG83 : WFG Gn82 := by rw [eGn82]; exact hens81
        refine lv_istore (lv' := [(8, .int ((f_X5_outputIn G_10 (((f_L_cell L xs x2_10) >>> (6 &&& 31)) &&& 3) ((1 : Int32) + (f_L_low ((f_L_cell L xs x2_10) >>> (4 &&& 31)) 9))).1)), (7, .int ((1 : Int32) + (f_L_low ((f_L_cell L xs x2_10) >>> (4 &&& 31)) 9))), (6, .int (((f_L_cell L xs x2_10) >>> (6 &&& 31)) &&& 3)), (4, .long (f_L_digest G_10)), (3, .int (f_L_cell L xs x2_10)), (0, .ref (b)), (1, .ref (a 0)), (2, .int x2_10)]) hx hb dL_law_56 hl (by decide) rfl (fun ls hl => ?_)
        refine lv_aload_n hx hb dL_law_58 rfl (lv_at hl 6 rfl) ?_
        refine lv_iconst (v := 2) hx hb dL_law_59 (by decide) ?_
        have hPc : va_P (dC, dI) vwCl (cDk a cI cC cS Gn82) H80 := hP.sub [0, 1, 2, 3, 4, 5, 6, 7, 8, 9, 10, 11, 12, 13, 14, 15, 16, 17, 18, 19, 20, 21, 22, 23, 24, 25, 26, 27, 28, 29, 30, 31, 32, 33, 34, 35, 36, 37, 38, 39, 40, 41, 42, 43, 44, 45, 46, 47, 48, 49, 50, 51, 52, 53, 54, 55, 56, 57, 58, 59, 60, 61, 62, 63, 64, 65, 66, 67, 68, 69, 70, 71, 72, 73, 74, 75, 76, 77, 78, 79, 80, 81, 82, 83, 84, 85, 86, 87, 88, 89, 90, 91, 92] rfl
        have hDc : va_D ((fun q : Nat => s.heap.size ≤ q)) (cDk a cI cC cS Gn82) := hD.sub [0, 1, 2, 3, 4, 5, 6, 7, 8, 9, 10, 11, 12, 13, 14, 15, 16, 17, 18, 19, 20, 21, 22, 23, 24, 25, 26, 27, 28, 29, 30, 31, 32, 33, 34, 35, 36, 37, 38, 39, 40, 41, 42, 43, 44, 45, 46, 47, 48, 49, 50, 51, 52, 53, 54, 55, 56, 57, 58, 59, 60, 61, 62, 63, 64, 65, 66, 67, 68, 69, 70, 71, 72, 73, 74, 75, 76, 77, 78, 79, 80, 81, 82, 83, 84, 85, 86, 87, 88, 89, 90, 91, 92] (by decide) rfl
        have hFc : ∀ q : Nat, va_A [] H80.size q → (fun q : Nat => s.heap.size ≤ q) q := roF hS hA
        refine va_calli (va_runV (As := [.int 2]) (rest := []) ⟨hx, hb, hml, hown, hts⟩ (c_X5_count l dC dI cI cC cS a Gn82 H80.size 2 hG83) (cwV 1 hts gL_law_X5_count rfl rfl rfl (by decide +kernel) ⟨Nat.le_of_ble_eq_true rfl, Nat.le_of_ble_eq_true rfl⟩) (pV (q0 := 0) hK hPc hDc hN rfl rfl) rfl rfl hl.1 rfl (lv_room (Nat.le_of_ble_eq_true rfl)) dL_law_60 ⟨Nat.le_of_ble_eq_true rfl, Nat.le_of_ble_eq_true rfl⟩) hS (fun q _ h => hFc q h) hFc (fun r_84 u_84 t_84 H85 locs ht hvm hw hB hz1 hk1 hS => ?_)
        subst hw
        have hP := ro_keep hP hk1
        refine lv_istore (lv' := [(9, .int (f_X5_count Gn82 2)), (8, .int ((f_X5_outputIn G_10 (((f_L_cell L xs x2_10) >>> (6 &&& 31)) &&& 3) ((1 : Int32) + (f_L_low ((f_L_cell L xs x2_10) >>> (4 &&& 31)) 9))).1)), (7, .int ((1 : Int32) + (f_L_low ((f_L_cell L xs x2_10) >>> (4 &&& 31)) 9))), (6, .int (((f_L_cell L xs x2_10) >>> (6 &&& 31)) &&& 3)), (4, .long (f_L_digest G_10)), (3, .int (f_L_cell L xs x2_10)), (0, .ref (b)), (1, .ref (a 0)), (2, .int x2_10)]) hx hb dL_law_63 hl (by decide) rfl (fun ls hl => ?_)
        refine lv_aload_n hx hb dL_law_65 rfl (lv_at hl 7 rfl) ?_
        refine lv_iload_n hx hb dL_law_66 rfl (lv_at hl 5 rfl) ?_
        have hPc : va_P (dC, dI) vwCl (cDk a cI cC cS Gn82) H85 := hP.sub [0, 1, 2, 3, 4, 5, 6, 7, 8, 9, 10, 11, 12, 13, 14, 15, 16, 17, 18, 19, 20, 21, 22, 23, 24, 25, 26, 27, 28, 29, 30, 31, 32, 33, 34, 35, 36, 37, 38, 39, 40, 41, 42, 43, 44, 45, 46, 47, 48, 49, 50, 51, 52, 53, 54, 55, 56, 57, 58, 59, 60, 61, 62, 63, 64, 65, 66, 67, 68, 69, 70, 71, 72, 73, 74, 75, 76, 77, 78, 79, 80, 81, 82, 83, 84, 85, 86, 87, 88, 89, 90, 91, 92] rfl
        have hDc : va_D ((fun q : Nat => s.heap.size ≤ q)) (cDk a cI cC cS Gn82) := hD.sub [0, 1, 2, 3, 4, 5, 6, 7, 8, 9, 10, 11, 12, 13, 14, 15, 16, 17, 18, 19, 20, 21, 22, 23, 24, 25, 26, 27, 28, 29, 30, 31, 32, 33, 34, 35, 36, 37, 38, 39, 40, 41, 42, 43, 44, 45, 46, 47, 48, 49, 50, 51, 52, 53, 54, 55, 56, 57, 58, 59, 60, 61, 62, 63, 64, 65, 66, 67, 68, 69, 70, 71, 72, 73, 74, 75, 76, 77, 78, 79, 80, 81, 82, 83, 84, 85, 86, 87, 88, 89, 90, 91, 92] (by decide) rfl
        have hFc : ∀ q : Nat, va_A (cDk a cI cC cS Gn82) H85.size q → (fun q : Nat => s.heap.size ≤ q) q := va_free hD hS hA [0, 1, 2, 3, 4, 5, 6, 7, 8, 9, 10, 11, 12, 13, 14, 15, 16, 17, 18, 19, 20, 21, 22, 23, 24, 25, 26, 27, 28, 29, 30, 31, 32, 33, 34, 35, 36, 37, 38, 39, 40, 41, 42, 43, 44, 45, 46, 47, 48, 49, 50, 51, 52, 53, 54, 55, 56, 57, 58, 59, 60, 61, 62, 63, 64, 65, 66, 67, 68, 69, 70, 71, 72, 73, 74, 75, 76, 77, 78, 79, 80, 81, 82, 83, 84, 85, 86, 87, 88, 89, 90, 91, 92] rfl
        refine va_calli (va_runS (As := [.ref (a 0), .int (f_L_cell L xs x2_10)]) (rest := []) ⟨hx, hb, hml, hown, hts⟩ (c_L_act l dC dI cI cC cS a Gn82 H85.size (f_L_cell L xs x2_10) hG83) (va_cwS 2 hts gL_law_L_act rfl rfl rfl (by decide +kernel) ⟨Nat.le_of_ble_eq_true rfl, Nat.le_of_ble_eq_true rfl⟩) (pSS hK hPc hDc hN hT hS hFc) rfl rfl hl.1 rfl (lv_room (Nat.le_of_ble_eq_true rfl)) dL_law_67 ⟨Nat.le_of_ble_eq_true rfl, Nat.le_of_ble_eq_true rfl⟩) hS (fun q _ h => hFc q h) hFc (fun r_86 u_86 t_86 H87 locs ht hvm hw hB hz1 hk1 hS => ?_)
        obtain ⟨hw, hens88⟩ := hw
        obtain ⟨hP1, hD1⟩ := hB
        rw [ht] at hP1
        have hw1 : r_86 = (f_L_act Gn82 (f_L_cell L xs x2_10)).1 := congrArg Prod.fst hw
        have hw2 : u_86 = (f_L_act Gn82 (f_L_cell L xs x2_10)).2 := congrArg Prod.snd hw
        clear hw
        subst hw1
        rw [hw2] at hP1 hD1 hens88
        obtain ⟨hP, hD⟩ := va_join (wc := cDk a cI cC cS Gn82) (wr := []) (w1 := cDk a cI cC cS ((f_L_act Gn82 (f_L_cell L xs x2_10)).2)) hP hD [0, 1, 2, 3, 4, 5, 6, 7, 8, 9, 10, 11, 12, 13, 14, 15, 16, 17, 18, 19, 20, 21, 22, 23, 24, 25, 26, 27, 28, 29, 30, 31, 32, 33, 34, 35, 36, 37, 38, 39, 40, 41, 42, 43, 44, 45, 46, 47, 48, 49, 50, 51, 52, 53, 54, 55, 56, 57, 58, 59, 60, 61, 62, 63, 64, 65, 66, 67, 68, 69, 70, 71, 72, 73, 74, 75, 76, 77, 78, 79, 80, 81, 82, 83, 84, 85, 86, 87, 88, 89, 90, 91, 92] [] rfl rfl (by decide) (by decide) hk1 hFc hP1 hD1
        have hP : va_P (dC, dI) vwCl (cDk a cI cC cS ((f_L_act Gn82 (f_L_cell L xs x2_10)).2)) H87 := hP.sub [0, 1, 2, 3, 4, 5, 6, 7, 8, 9, 10, 11, 12, 13, 14, 15, 16, 17, 18, 19, 20, 21, 22, 23, 24, 25, 26, 27, 28, 29, 30, 31, 32, 33, 34, 35, 36, 37, 38, 39, 40, 41, 42, 43, 44, 45, 46, 47, 48, 49, 50, 51, 52, 53, 54, 55, 56, 57, 58, 59, 60, 61, 62, 63, 64, 65, 66, 67, 68, 69, 70, 71, 72, 73, 74, 75, 76, 77, 78, 79, 80, 81, 82, 83, 84, 85, 86, 87, 88, 89, 90, 91, 92] rfl
        have hD : va_D ((fun q : Nat => s.heap.size ≤ q)) (cDk a cI cC cS ((f_L_act Gn82 (f_L_cell L xs x2_10)).2)) := hD.sub [0, 1, 2, 3, 4, 5, 6, 7, 8, 9, 10, 11, 12, 13, 14, 15, 16, 17, 18, 19, 20, 21, 22, 23, 24, 25, 26, 27, 28, 29, 30, 31, 32, 33, 34, 35, 36, 37, 38, 39, 40, 41, 42, 43, 44, 45, 46, 47, 48, 49, 50, 51, 52, 53, 54, 55, 56, 57, 58, 59, 60, 61, 62, 63, 64, 65, 66, 67, 68, 69, 70, 71, 72, 73, 74, 75, 76, 77, 78, 79, 80, 81, 82, 83, 84, 85, 86, 87, 88, 89, 90, 91, 92] (by decide) rfl
        obtain ⟨Gn89, eGn89⟩ : ∃ z : GR, z = (f_L_act Gn82 (f_L_cell L xs x2_10)).2 := ⟨_, rfl⟩
        rw [sLet_eq, ← eGn89] at hR
        rw [← eGn89] at hP hD
        have hG90 : WFG Gn89 := by rw [eGn89]; exact hens88
        refine lv_istore (lv' := [(10, .int ((f_L_act Gn82 (f_L_cell L xs x2_10)).1)), (9, .int (f_X5_count Gn82 2)), (8, .int ((f_X5_outputIn G_10 (((f_L_cell L xs x2_10) >>> (6 &&& 31)) &&& 3) ((1 : Int32) + (f_L_low ((f_L_cell L xs x2_10) >>> (4 &&& 31)) 9))).1)), (7, .int ((1 : Int32) + (f_L_low ((f_L_cell L xs x2_10) >>> (4 &&& 31)) 9))), (6, .int (((f_L_cell L xs x2_10) >>> (6 &&& 31)) &&& 3)), (4, .long (f_L_digest G_10)), (3, .int (f_L_cell L xs x2_10)), (0, .ref (b)), (1, .ref (a 0)), (2, .int x2_10)]) hx hb dL_law_70 hl (by decide) rfl (fun ls hl => ?_)
        refine lv_iload hx hb dL_law_72 (lv_at hl 0 rfl) ?_
        refine lv_iconst (v := (-1)) hx hb dL_law_74 (by decide) ?_
        have hJ_111 : ∀ (x2_111 : Int32) (x3_111 : Int32) (x4_111 : Int64) (x6_111 : Int32) (x8_111 : Int32) (x9_111 : Int32) (x10_111 : Int32)  (G_111 : GR), x2_111 = nI j_10 → WFG G_111 → R0 = f_L_law_p111 L xs (f_L_law_p10 L xs n_10) x2_111 x3_111 x4_111 x6_111 x8_111 x9_111 x10_111 G_111 → ∀ (H : Heap) (locs : List Loc) (ls : Array Slot), va_P (dC, dI) vwCl (cDk a cI cC cS G_111) H → va_D ((fun q : Nat => s.heap.size ≤ q)) (cDk a cI cC cS G_111) → va_S ((fun q : Nat => s.heap.size ≤ q)) s.heap H locs → lv_has ls 14 [(0, .ref (b)), (1, .ref (a 0)), (2, .int x2_111), (3, .int x3_111), (4, .long x4_111), (6, .int x6_111), (8, .int x8_111), (9, .int x9_111), (10, .int x10_111)] → W p l e room_1 s m #[Value.ref b] below meth c H locs 93 1959 (lw_Z below #[Value.ref b] s) (F0 m 111 ls []) := by
          intro x2_111 x3_111 x4_111 x6_111 x8_111 x9_111 x10_111 G_111 ex2_111 hG_111 hR H locs ls hP hD hS hl
          rw [f_L_law_p111] at hR
          refine lv_aload_n hx hb dL_law_111 rfl (lv_at hl 1 rfl) ?_
          have hPc : va_P (dC, dI) vwCl (cDk a cI cC cS G_111) H := hP.sub [0, 1, 2, 3, 4, 5, 6, 7, 8, 9, 10, 11, 12, 13, 14, 15, 16, 17, 18, 19, 20, 21, 22, 23, 24, 25, 26, 27, 28, 29, 30, 31, 32, 33, 34, 35, 36, 37, 38, 39, 40, 41, 42, 43, 44, 45, 46, 47, 48, 49, 50, 51, 52, 53, 54, 55, 56, 57, 58, 59, 60, 61, 62, 63, 64, 65, 66, 67, 68, 69, 70, 71, 72, 73, 74, 75, 76, 77, 78, 79, 80, 81, 82, 83, 84, 85, 86, 87, 88, 89, 90, 91, 92] rfl
          have hDc : va_D ((fun q : Nat => s.heap.size ≤ q)) (cDk a cI cC cS G_111) := hD.sub [0, 1, 2, 3, 4, 5, 6, 7, 8, 9, 10, 11, 12, 13, 14, 15, 16, 17, 18, 19, 20, 21, 22, 23, 24, 25, 26, 27, 28, 29, 30, 31, 32, 33, 34, 35, 36, 37, 38, 39, 40, 41, 42, 43, 44, 45, 46, 47, 48, 49, 50, 51, 52, 53, 54, 55, 56, 57, 58, 59, 60, 61, 62, 63, 64, 65, 66, 67, 68, 69, 70, 71, 72, 73, 74, 75, 76, 77, 78, 79, 80, 81, 82, 83, 84, 85, 86, 87, 88, 89, 90, 91, 92] (by decide) rfl
          have hFc : ∀ q : Nat, va_A (cDk a cI cC cS G_111) H.size q → (fun q : Nat => s.heap.size ≤ q) q := va_free hD hS hA [0, 1, 2, 3, 4, 5, 6, 7, 8, 9, 10, 11, 12, 13, 14, 15, 16, 17, 18, 19, 20, 21, 22, 23, 24, 25, 26, 27, 28, 29, 30, 31, 32, 33, 34, 35, 36, 37, 38, 39, 40, 41, 42, 43, 44, 45, 46, 47, 48, 49, 50, 51, 52, 53, 54, 55, 56, 57, 58, 59, 60, 61, 62, 63, 64, 65, 66, 67, 68, 69, 70, 71, 72, 73, 74, 75, 76, 77, 78, 79, 80, 81, 82, 83, 84, 85, 86, 87, 88, 89, 90, 91, 92] rfl
          refine va_calli (va_runS (As := [.ref (a 0)]) (rest := []) ⟨hx, hb, hml, hown, hts⟩ (c_L_isRight l dC dI cI cC cS a G_111 H.size hG_111) (va_cwS 1 hts gL_law_L_isRight rfl rfl rfl (by decide +kernel) ⟨Nat.le_of_ble_eq_true rfl, Nat.le_of_ble_eq_true rfl⟩) (pSS hK hPc hDc hN hT hS hFc) rfl rfl hl.1 rfl (lv_room (Nat.le_of_ble_eq_true rfl)) dL_law_112 ⟨Nat.le_of_ble_eq_true rfl, Nat.le_of_ble_eq_true rfl⟩) hS (fun q _ h => hFc q h) hFc (fun r_91 u_91 t_91 H92 locs ht hvm hw hB hz1 hk1 hS => ?_)
          obtain ⟨hw, hens93, hens94⟩ := hw
          obtain ⟨hP1, hD1⟩ := hB
          rw [ht] at hP1
          have hw1 : r_91 = (f_L_isRight G_111).1 := congrArg Prod.fst hw
          have hw2 : u_91 = (f_L_isRight G_111).2 := congrArg Prod.snd hw
          clear hw
          subst hw1
          rw [hw2] at hP1 hD1 hens93
          obtain ⟨hP, hD⟩ := va_join (wc := cDk a cI cC cS G_111) (wr := []) (w1 := cDk a cI cC cS ((f_L_isRight G_111).2)) hP hD [0, 1, 2, 3, 4, 5, 6, 7, 8, 9, 10, 11, 12, 13, 14, 15, 16, 17, 18, 19, 20, 21, 22, 23, 24, 25, 26, 27, 28, 29, 30, 31, 32, 33, 34, 35, 36, 37, 38, 39, 40, 41, 42, 43, 44, 45, 46, 47, 48, 49, 50, 51, 52, 53, 54, 55, 56, 57, 58, 59, 60, 61, 62, 63, 64, 65, 66, 67, 68, 69, 70, 71, 72, 73, 74, 75, 76, 77, 78, 79, 80, 81, 82, 83, 84, 85, 86, 87, 88, 89, 90, 91, 92] [] rfl rfl (by decide) (by decide) hk1 hFc hP1 hD1
          have hP : va_P (dC, dI) vwCl (cDk a cI cC cS ((f_L_isRight G_111).2)) H92 := hP.sub [0, 1, 2, 3, 4, 5, 6, 7, 8, 9, 10, 11, 12, 13, 14, 15, 16, 17, 18, 19, 20, 21, 22, 23, 24, 25, 26, 27, 28, 29, 30, 31, 32, 33, 34, 35, 36, 37, 38, 39, 40, 41, 42, 43, 44, 45, 46, 47, 48, 49, 50, 51, 52, 53, 54, 55, 56, 57, 58, 59, 60, 61, 62, 63, 64, 65, 66, 67, 68, 69, 70, 71, 72, 73, 74, 75, 76, 77, 78, 79, 80, 81, 82, 83, 84, 85, 86, 87, 88, 89, 90, 91, 92] rfl
          have hD : va_D ((fun q : Nat => s.heap.size ≤ q)) (cDk a cI cC cS ((f_L_isRight G_111).2)) := hD.sub [0, 1, 2, 3, 4, 5, 6, 7, 8, 9, 10, 11, 12, 13, 14, 15, 16, 17, 18, 19, 20, 21, 22, 23, 24, 25, 26, 27, 28, 29, 30, 31, 32, 33, 34, 35, 36, 37, 38, 39, 40, 41, 42, 43, 44, 45, 46, 47, 48, 49, 50, 51, 52, 53, 54, 55, 56, 57, 58, 59, 60, 61, 62, 63, 64, 65, 66, 67, 68, 69, 70, 71, 72, 73, 74, 75, 76, 77, 78, 79, 80, 81, 82, 83, 84, 85, 86, 87, 88, 89, 90, 91, 92] (by decide) rfl
          obtain ⟨Gn95, eGn95⟩ : ∃ z : GR, z = (f_L_isRight G_111).2 := ⟨_, rfl⟩
          rw [sLet_eq, ← eGn95] at hR
          rw [← eGn95] at hP hD
          have hG96 : WFG Gn95 := by rw [eGn95]; exact hens93
          refine lv_if_ne (tgt := 120) hx hb dL_law_115 (by decide) (fun c97 => ?_) (fun c97 => ?_)
          · rw [if_neg c97] at hR
            refine lv_iload_n hx hb dL_law_120 rfl (lv_at hl 3 rfl) ?_
            refine lv_bipush (v := 15) hx hb dL_law_121 (by decide) ?_
            refine lv_iand hx hb dL_law_123 ?_
            refine lv_bipush (v := 15) hx hb dL_law_124 (by decide) ?_
            have hJ_173 : ∀ (x2_173 : Int32) (x3_173 : Int32) (x4_173 : Int64) (x6_173 : Int32) (x10_173 : Int32)  (G_173 : GR), x2_173 = nI j_10 → WFG G_173 → R0 = f_L_law_p173 L xs (f_L_law_p10 L xs n_10) x2_173 x3_173 x4_173 x6_173 x10_173 G_173 → ∀ (H : Heap) (locs : List Loc) (ls : Array Slot), va_P (dC, dI) vwCl (cDk a cI cC cS G_173) H → va_D ((fun q : Nat => s.heap.size ≤ q)) (cDk a cI cC cS G_173) → va_S ((fun q : Nat => s.heap.size ≤ q)) s.heap H locs → lv_has ls 14 [(0, .ref (b)), (1, .ref (a 0)), (2, .int x2_173), (3, .int x3_173), (4, .long x4_173), (6, .int x6_173), (10, .int x10_173)] → W p l e room_1 s m #[Value.ref b] below meth c H locs 93 1959 (lw_Z below #[Value.ref b] s) (F0 m 173 ls []) := by
              intro x2_173 x3_173 x4_173 x6_173 x10_173 G_173 ex2_173 hG_173 hR H locs ls hP hD hS hl
              rw [f_L_law_p173] at hR
              refine lv_iload hx hb dL_law_173 (lv_at hl 6 rfl) ?_
              have hJ_230 : ∀ (x2_230 : Int32) (x6_230 : Int32)  (G_230 : GR), x2_230 = nI j_10 → WFG G_230 → R0 = f_L_law_p230 L xs (f_L_law_p10 L xs n_10) x2_230 x6_230 G_230 → ∀ (H : Heap) (locs : List Loc) (ls : Array Slot), va_P (dC, dI) vwCl (cDk a cI cC cS G_230) H → va_D ((fun q : Nat => s.heap.size ≤ q)) (cDk a cI cC cS G_230) → va_S ((fun q : Nat => s.heap.size ≤ q)) s.heap H locs → lv_has ls 14 [(0, .ref (b)), (1, .ref (a 0)), (2, .int x2_230), (6, .int x6_230)] → W p l e room_1 s m #[Value.ref b] below meth c H locs 93 1959 (lw_Z below #[Value.ref b] s) (F0 m 230 ls []) := by
                intro x2_230 x6_230 G_230 ex2_230 hG_230 hR H locs ls hP hD hS hl
                rw [f_L_law_p230] at hR
                refine lv_aload_n hx hb dL_law_230 rfl (lv_at hl 1 rfl) ?_
                refine lv_iload hx hb dL_law_231 (lv_at hl 3 rfl) ?_
                have hPc : va_P (dC, dI) vwCl (cDk a cI cC cS G_230) H := hP.sub [0, 1, 2, 3, 4, 5, 6, 7, 8, 9, 10, 11, 12, 13, 14, 15, 16, 17, 18, 19, 20, 21, 22, 23, 24, 25, 26, 27, 28, 29, 30, 31, 32, 33, 34, 35, 36, 37, 38, 39, 40, 41, 42, 43, 44, 45, 46, 47, 48, 49, 50, 51, 52, 53, 54, 55, 56, 57, 58, 59, 60, 61, 62, 63, 64, 65, 66, 67, 68, 69, 70, 71, 72, 73, 74, 75, 76, 77, 78, 79, 80, 81, 82, 83, 84, 85, 86, 87, 88, 89, 90, 91, 92] rfl
                have hDc : va_D ((fun q : Nat => s.heap.size ≤ q)) (cDk a cI cC cS G_230) := hD.sub [0, 1, 2, 3, 4, 5, 6, 7, 8, 9, 10, 11, 12, 13, 14, 15, 16, 17, 18, 19, 20, 21, 22, 23, 24, 25, 26, 27, 28, 29, 30, 31, 32, 33, 34, 35, 36, 37, 38, 39, 40, 41, 42, 43, 44, 45, 46, 47, 48, 49, 50, 51, 52, 53, 54, 55, 56, 57, 58, 59, 60, 61, 62, 63, 64, 65, 66, 67, 68, 69, 70, 71, 72, 73, 74, 75, 76, 77, 78, 79, 80, 81, 82, 83, 84, 85, 86, 87, 88, 89, 90, 91, 92] (by decide) rfl
                have hFc : ∀ q : Nat, va_A (cDk a cI cC cS G_230) H.size q → (fun q : Nat => s.heap.size ≤ q) q := va_free hD hS hA [0, 1, 2, 3, 4, 5, 6, 7, 8, 9, 10, 11, 12, 13, 14, 15, 16, 17, 18, 19, 20, 21, 22, 23, 24, 25, 26, 27, 28, 29, 30, 31, 32, 33, 34, 35, 36, 37, 38, 39, 40, 41, 42, 43, 44, 45, 46, 47, 48, 49, 50, 51, 52, 53, 54, 55, 56, 57, 58, 59, 60, 61, 62, 63, 64, 65, 66, 67, 68, 69, 70, 71, 72, 73, 74, 75, 76, 77, 78, 79, 80, 81, 82, 83, 84, 85, 86, 87, 88, 89, 90, 91, 92] rfl
                refine va_calli (va_runV (As := [.int x6_230]) (rest := []) ⟨hx, hb, hml, hown, hts⟩ (c_X5_cut l dC dI cI cC cS a G_230 H.size x6_230 hG_230) (cwV 1 hts gL_law_X5_cut rfl rfl rfl (by decide +kernel) ⟨Nat.le_of_ble_eq_true rfl, Nat.le_of_ble_eq_true rfl⟩) (pV (q0 := 0) hK hPc hDc hN rfl rfl) rfl rfl hl.1 rfl (lv_room (Nat.le_of_ble_eq_true rfl)) dL_law_233 ⟨Nat.le_of_ble_eq_true rfl, Nat.le_of_ble_eq_true rfl⟩) hS (fun q _ h => hFc q h) hFc (fun r_98 u_98 t_98 H99 locs ht hvm hw hB hz1 hk1 hS => ?_)
                obtain ⟨hw, hens100⟩ := hw
                obtain ⟨hP1, hD1⟩ := hB
                rw [ht] at hP1
                have hw1 : r_98 = (f_X5_cut G_230 x6_230).1 := congrArg Prod.fst hw
                have hw2 : u_98 = (f_X5_cut G_230 x6_230).2 := congrArg Prod.snd hw
                clear hw
                subst hw1
                rw [hw2] at hP1 hD1 hens100
                obtain ⟨hP, hD⟩ := va_join (wc := cDk a cI cC cS G_230) (wr := []) (w1 := cDk a cI cC cS ((f_X5_cut G_230 x6_230).2)) hP hD [0, 1, 2, 3, 4, 5, 6, 7, 8, 9, 10, 11, 12, 13, 14, 15, 16, 17, 18, 19, 20, 21, 22, 23, 24, 25, 26, 27, 28, 29, 30, 31, 32, 33, 34, 35, 36, 37, 38, 39, 40, 41, 42, 43, 44, 45, 46, 47, 48, 49, 50, 51, 52, 53, 54, 55, 56, 57, 58, 59, 60, 61, 62, 63, 64, 65, 66, 67, 68, 69, 70, 71, 72, 73, 74, 75, 76, 77, 78, 79, 80, 81, 82, 83, 84, 85, 86, 87, 88, 89, 90, 91, 92] [] rfl rfl (by decide) (by decide) hk1 hFc hP1 hD1
                have hP : va_P (dC, dI) vwCl (cDk a cI cC cS ((f_X5_cut G_230 x6_230).2)) H99 := hP.sub [0, 1, 2, 3, 4, 5, 6, 7, 8, 9, 10, 11, 12, 13, 14, 15, 16, 17, 18, 19, 20, 21, 22, 23, 24, 25, 26, 27, 28, 29, 30, 31, 32, 33, 34, 35, 36, 37, 38, 39, 40, 41, 42, 43, 44, 45, 46, 47, 48, 49, 50, 51, 52, 53, 54, 55, 56, 57, 58, 59, 60, 61, 62, 63, 64, 65, 66, 67, 68, 69, 70, 71, 72, 73, 74, 75, 76, 77, 78, 79, 80, 81, 82, 83, 84, 85, 86, 87, 88, 89, 90, 91, 92] rfl
                have hD : va_D ((fun q : Nat => s.heap.size ≤ q)) (cDk a cI cC cS ((f_X5_cut G_230 x6_230).2)) := hD.sub [0, 1, 2, 3, 4, 5, 6, 7, 8, 9, 10, 11, 12, 13, 14, 15, 16, 17, 18, 19, 20, 21, 22, 23, 24, 25, 26, 27, 28, 29, 30, 31, 32, 33, 34, 35, 36, 37, 38, 39, 40, 41, 42, 43, 44, 45, 46, 47, 48, 49, 50, 51, 52, 53, 54, 55, 56, 57, 58, 59, 60, 61, 62, 63, 64, 65, 66, 67, 68, 69, 70, 71, 72, 73, 74, 75, 76, 77, 78, 79, 80, 81, 82, 83, 84, 85, 86, 87, 88, 89, 90, 91, 92] (by decide) rfl
                obtain ⟨Gn101, eGn101⟩ : ∃ z : GR, z = (f_X5_cut G_230 x6_230).2 := ⟨_, rfl⟩
                rw [sLet_eq, ← eGn101] at hR
                rw [← eGn101] at hP hD
                have hG102 : WFG Gn101 := by rw [eGn101]; exact hens100
                refine lv_istore (lv' := [(11, .int ((f_X5_cut G_230 x6_230).1)), (0, .ref (b)), (1, .ref (a 0)), (2, .int x2_230), (6, .int x6_230)]) hx hb dL_law_236 hl (by decide) rfl (fun ls hl => ?_)
                refine lv_iload hx hb dL_law_238 (lv_at hl 0 rfl) ?_
                refine lv_if_lt (tgt := 296) hx hb dL_law_240 (by decide) (fun c103 => ?_) (fun c103 => ?_)
                · rw [if_pos c103] at hR
                  refine lv_iinc (v := x2_230 + 1) (lv' := [(2, .int (x2_230 + 1)), (11, .int ((f_X5_cut G_230 x6_230).1)), (0, .ref (b)), (1, .ref (a 0)), (6, .int x6_230)]) hx hb dL_law_296 hl (k := 3) rfl rfl (by decide) rfl (fun ls hl => ?_)
                  refine lv_goto (tgt := 10) hx hb dL_law_299 (by decide) ?_
                  exact ih_10 (j_10 + 1) (x2_230 + 1) Gn101 (by rw [ex2_230, nI_1]) (by omega) (by omega) hG102 hR _ _ _ hP hD hS (lv_sub hl [2, 3, 0] rfl)
                · rw [if_neg c103] at hR
                  refine lv_aload_n hx hb dL_law_243 rfl (lv_at hl 2 rfl) ?_
                  have hPc : va_P (dC, dI) vwCl (cDk a cI cC cS Gn101) H99 := hP.sub [0, 1, 2, 3, 4, 5, 6, 7, 8, 9, 10, 11, 12, 13, 14, 15, 16, 17, 18, 19, 20, 21, 22, 23, 24, 25, 26, 27, 28, 29, 30, 31, 32, 33, 34, 35, 36, 37, 38, 39, 40, 41, 42, 43, 44, 45, 46, 47, 48, 49, 50, 51, 52, 53, 54, 55, 56, 57, 58, 59, 60, 61, 62, 63, 64, 65, 66, 67, 68, 69, 70, 71, 72, 73, 74, 75, 76, 77, 78, 79, 80, 81, 82, 83, 84, 85, 86, 87, 88, 89, 90, 91, 92] rfl
                  have hDc : va_D ((fun q : Nat => s.heap.size ≤ q)) (cDk a cI cC cS Gn101) := hD.sub [0, 1, 2, 3, 4, 5, 6, 7, 8, 9, 10, 11, 12, 13, 14, 15, 16, 17, 18, 19, 20, 21, 22, 23, 24, 25, 26, 27, 28, 29, 30, 31, 32, 33, 34, 35, 36, 37, 38, 39, 40, 41, 42, 43, 44, 45, 46, 47, 48, 49, 50, 51, 52, 53, 54, 55, 56, 57, 58, 59, 60, 61, 62, 63, 64, 65, 66, 67, 68, 69, 70, 71, 72, 73, 74, 75, 76, 77, 78, 79, 80, 81, 82, 83, 84, 85, 86, 87, 88, 89, 90, 91, 92] (by decide) rfl
                  have hFc : ∀ q : Nat, va_A [] H99.size q → (fun q : Nat => s.heap.size ≤ q) q := roF hS hA
                  refine va_calll (va_runS (As := [.ref (a 0)]) (rest := []) ⟨hx, hb, hml, hown, hts⟩ (c_L_digest l dC dI cI cC cS a Gn101 H99.size hG102) (va_cwS 1 hts gL_law_L_digest rfl rfl rfl (by decide +kernel) ⟨Nat.le_of_ble_eq_true rfl, Nat.le_of_ble_eq_true rfl⟩) (pSS hK hPc hDc hN hT hS hFc) rfl rfl hl.1 rfl (lv_room (Nat.le_of_ble_eq_true rfl)) dL_law_244 ⟨Nat.le_of_ble_eq_true rfl, Nat.le_of_ble_eq_true rfl⟩) hS (fun q _ h => hFc q h) hFc (fun r_104 u_104 t_104 H105 locs ht hvm hw hB hz1 hk1 hS => ?_)
                  subst hw
                  have hP := ro_keep hP hk1
                  refine lv_lstore (lv' := [(12, .long (f_L_digest Gn101)), (11, .int ((f_X5_cut G_230 x6_230).1)), (0, .ref (b)), (1, .ref (a 0)), (2, .int x2_230), (6, .int x6_230)]) hx hb dL_law_247 hl (by decide) rfl (fun ls hl => ?_)
                  refine lv_aload_n hx hb dL_law_249 rfl (lv_at hl 3 rfl) ?_
                  refine lv_iload hx hb dL_law_250 (lv_at hl 1 rfl) ?_
                  refine lv_bipush (v := 100) hx hb dL_law_252 (by decide) ?_
                  refine lv_idiv hx hb dL_law_254 (by decide) ?_
                  refine lv_iload hx hb dL_law_255 (lv_at hl 1 rfl) ?_
                  refine lv_bipush (v := 100) hx hb dL_law_257 (by decide) ?_
                  refine lv_irem hx hb dL_law_259 (by decide) ?_
                  refine lv_iconst (v := 0) hx hb dL_law_260 (by decide) ?_
                  have hPc : va_P (dC, dI) vwCl (cDk a cI cC cS Gn101) H105 := hP.sub [0, 1, 2, 3, 4, 5, 6, 7, 8, 9, 10, 11, 12, 13, 14, 15, 16, 17, 18, 19, 20, 21, 22, 23, 24, 25, 26, 27, 28, 29, 30, 31, 32, 33, 34, 35, 36, 37, 38, 39, 40, 41, 42, 43, 44, 45, 46, 47, 48, 49, 50, 51, 52, 53, 54, 55, 56, 57, 58, 59, 60, 61, 62, 63, 64, 65, 66, 67, 68, 69, 70, 71, 72, 73, 74, 75, 76, 77, 78, 79, 80, 81, 82, 83, 84, 85, 86, 87, 88, 89, 90, 91, 92] rfl
                  have hDc : va_D ((fun q : Nat => s.heap.size ≤ q)) (cDk a cI cC cS Gn101) := hD.sub [0, 1, 2, 3, 4, 5, 6, 7, 8, 9, 10, 11, 12, 13, 14, 15, 16, 17, 18, 19, 20, 21, 22, 23, 24, 25, 26, 27, 28, 29, 30, 31, 32, 33, 34, 35, 36, 37, 38, 39, 40, 41, 42, 43, 44, 45, 46, 47, 48, 49, 50, 51, 52, 53, 54, 55, 56, 57, 58, 59, 60, 61, 62, 63, 64, 65, 66, 67, 68, 69, 70, 71, 72, 73, 74, 75, 76, 77, 78, 79, 80, 81, 82, 83, 84, 85, 86, 87, 88, 89, 90, 91, 92] (by decide) rfl
                  have hFc : ∀ q : Nat, va_A (cDk a cI cC cS Gn101) H105.size q → (fun q : Nat => s.heap.size ≤ q) q := va_free hD hS hA [0, 1, 2, 3, 4, 5, 6, 7, 8, 9, 10, 11, 12, 13, 14, 15, 16, 17, 18, 19, 20, 21, 22, 23, 24, 25, 26, 27, 28, 29, 30, 31, 32, 33, 34, 35, 36, 37, 38, 39, 40, 41, 42, 43, 44, 45, 46, 47, 48, 49, 50, 51, 52, 53, 54, 55, 56, 57, 58, 59, 60, 61, 62, 63, 64, 65, 66, 67, 68, 69, 70, 71, 72, 73, 74, 75, 76, 77, 78, 79, 80, 81, 82, 83, 84, 85, 86, 87, 88, 89, 90, 91, 92] rfl
                  refine va_calli (va_runV (As := [.int (((f_X5_cut G_230 x6_230).1) / 100), .int (((f_X5_cut G_230 x6_230).1) - ((f_X5_cut G_230 x6_230).1) / 100 * 100), .int 0]) (rest := []) ⟨hx, hb, hml, hown, hts⟩ (c_X5_setSend l dC dI cI cC cS a Gn101 H105.size (((f_X5_cut G_230 x6_230).1) / 100) (((f_X5_cut G_230 x6_230).1) - ((f_X5_cut G_230 x6_230).1) / 100 * 100) 0 hG102) (cwV 3 hts gL_law_X5_setSend rfl rfl rfl (by decide +kernel) ⟨Nat.le_of_ble_eq_true rfl, Nat.le_of_ble_eq_true rfl⟩) (pV (q0 := 0) hK hPc hDc hN rfl rfl) rfl rfl hl.1 rfl (lv_room (Nat.le_of_ble_eq_true rfl)) dL_law_261 ⟨Nat.le_of_ble_eq_true rfl, Nat.le_of_ble_eq_true rfl⟩) hS (fun q _ h => hFc q h) hFc (fun r_106 u_106 t_106 H107 locs ht hvm hw hB hz1 hk1 hS => ?_)
                  obtain ⟨hw, hens108⟩ := hw
                  obtain ⟨hP1, hD1⟩ := hB
                  rw [ht] at hP1
                  have hw1 : r_106 = (f_X5_setSend Gn101 (((f_X5_cut G_230 x6_230).1) / 100) (((f_X5_cut G_230 x6_230).1) - ((f_X5_cut G_230 x6_230).1) / 100 * 100) 0).1 := congrArg Prod.fst hw
                  have hw2 : u_106 = (f_X5_setSend Gn101 (((f_X5_cut G_230 x6_230).1) / 100) (((f_X5_cut G_230 x6_230).1) - ((f_X5_cut G_230 x6_230).1) / 100 * 100) 0).2 := congrArg Prod.snd hw
                  clear hw
                  subst hw1
                  rw [hw2] at hP1 hD1 hens108
                  obtain ⟨hP, hD⟩ := va_join (wc := cDk a cI cC cS Gn101) (wr := []) (w1 := cDk a cI cC cS ((f_X5_setSend Gn101 (((f_X5_cut G_230 x6_230).1) / 100) (((f_X5_cut G_230 x6_230).1) - ((f_X5_cut G_230 x6_230).1) / 100 * 100) 0).2)) hP hD [0, 1, 2, 3, 4, 5, 6, 7, 8, 9, 10, 11, 12, 13, 14, 15, 16, 17, 18, 19, 20, 21, 22, 23, 24, 25, 26, 27, 28, 29, 30, 31, 32, 33, 34, 35, 36, 37, 38, 39, 40, 41, 42, 43, 44, 45, 46, 47, 48, 49, 50, 51, 52, 53, 54, 55, 56, 57, 58, 59, 60, 61, 62, 63, 64, 65, 66, 67, 68, 69, 70, 71, 72, 73, 74, 75, 76, 77, 78, 79, 80, 81, 82, 83, 84, 85, 86, 87, 88, 89, 90, 91, 92] [] rfl rfl (by decide) (by decide) hk1 hFc hP1 hD1
                  have hP : va_P (dC, dI) vwCl (cDk a cI cC cS ((f_X5_setSend Gn101 (((f_X5_cut G_230 x6_230).1) / 100) (((f_X5_cut G_230 x6_230).1) - ((f_X5_cut G_230 x6_230).1) / 100 * 100) 0).2)) H107 := hP.sub [0, 1, 2, 3, 4, 5, 6, 7, 8, 9, 10, 11, 12, 13, 14, 15, 16, 17, 18, 19, 20, 21, 22, 23, 24, 25, 26, 27, 28, 29, 30, 31, 32, 33, 34, 35, 36, 37, 38, 39, 40, 41, 42, 43, 44, 45, 46, 47, 48, 49, 50, 51, 52, 53, 54, 55, 56, 57, 58, 59, 60, 61, 62, 63, 64, 65, 66, 67, 68, 69, 70, 71, 72, 73, 74, 75, 76, 77, 78, 79, 80, 81, 82, 83, 84, 85, 86, 87, 88, 89, 90, 91, 92] rfl
                  have hD : va_D ((fun q : Nat => s.heap.size ≤ q)) (cDk a cI cC cS ((f_X5_setSend Gn101 (((f_X5_cut G_230 x6_230).1) / 100) (((f_X5_cut G_230 x6_230).1) - ((f_X5_cut G_230 x6_230).1) / 100 * 100) 0).2)) := hD.sub [0, 1, 2, 3, 4, 5, 6, 7, 8, 9, 10, 11, 12, 13, 14, 15, 16, 17, 18, 19, 20, 21, 22, 23, 24, 25, 26, 27, 28, 29, 30, 31, 32, 33, 34, 35, 36, 37, 38, 39, 40, 41, 42, 43, 44, 45, 46, 47, 48, 49, 50, 51, 52, 53, 54, 55, 56, 57, 58, 59, 60, 61, 62, 63, 64, 65, 66, 67, 68, 69, 70, 71, 72, 73, 74, 75, 76, 77, 78, 79, 80, 81, 82, 83, 84, 85, 86, 87, 88, 89, 90, 91, 92] (by decide) rfl
                  obtain ⟨Gn109, eGn109⟩ : ∃ z : GR, z = (f_X5_setSend Gn101 (((f_X5_cut G_230 x6_230).1) / 100) (((f_X5_cut G_230 x6_230).1) - ((f_X5_cut G_230 x6_230).1) / 100 * 100) 0).2 := ⟨_, rfl⟩
                  rw [sLet_eq, ← eGn109] at hR
                  rw [← eGn109] at hP hD
                  have hG110 : WFG Gn109 := by rw [eGn109]; exact hens108
                  refine lv_iconst (v := 1) hx hb dL_law_264 (by decide) ?_
                  refine lv_icmp_lt (tgt := 294) hx hb dL_law_265 (by decide) (fun c111 => ?_) (fun c111 => ?_)
                  · rw [if_pos c111] at hR
                    refine lv_iconst (v := 0) hx hb dL_law_294 (by decide) ?_
                    exact absurd (h1.symm.trans (congrArg Prod.fst hR)) (show ¬ (1 : Int32) = 0 by decide)
                  · rw [if_neg c111] at hR
                    refine lv_aload_n hx hb dL_law_268 rfl (lv_at hl 3 rfl) ?_
                    refine lv_iload hx hb dL_law_269 (lv_at hl 5 rfl) ?_
                    have hPc : va_P (dC, dI) vwCl (cDk a cI cC cS Gn109) H107 := hP.sub [0, 1, 2, 3, 4, 5, 6, 7, 8, 9, 10, 11, 12, 13, 14, 15, 16, 17, 18, 19, 20, 21, 22, 23, 24, 25, 26, 27, 28, 29, 30, 31, 32, 33, 34, 35, 36, 37, 38, 39, 40, 41, 42, 43, 44, 45, 46, 47, 48, 49, 50, 51, 52, 53, 54, 55, 56, 57, 58, 59, 60, 61, 62, 63, 64, 65, 66, 67, 68, 69, 70, 71, 72, 73, 74, 75, 76, 77, 78, 79, 80, 81, 82, 83, 84, 85, 86, 87, 88, 89, 90, 91, 92] rfl
                    have hDc : va_D ((fun q : Nat => s.heap.size ≤ q)) (cDk a cI cC cS Gn109) := hD.sub [0, 1, 2, 3, 4, 5, 6, 7, 8, 9, 10, 11, 12, 13, 14, 15, 16, 17, 18, 19, 20, 21, 22, 23, 24, 25, 26, 27, 28, 29, 30, 31, 32, 33, 34, 35, 36, 37, 38, 39, 40, 41, 42, 43, 44, 45, 46, 47, 48, 49, 50, 51, 52, 53, 54, 55, 56, 57, 58, 59, 60, 61, 62, 63, 64, 65, 66, 67, 68, 69, 70, 71, 72, 73, 74, 75, 76, 77, 78, 79, 80, 81, 82, 83, 84, 85, 86, 87, 88, 89, 90, 91, 92] (by decide) rfl
                    have hFc : ∀ q : Nat, va_A (cDk a cI cC cS Gn109) H107.size q → (fun q : Nat => s.heap.size ≤ q) q := va_free hD hS hA [0, 1, 2, 3, 4, 5, 6, 7, 8, 9, 10, 11, 12, 13, 14, 15, 16, 17, 18, 19, 20, 21, 22, 23, 24, 25, 26, 27, 28, 29, 30, 31, 32, 33, 34, 35, 36, 37, 38, 39, 40, 41, 42, 43, 44, 45, 46, 47, 48, 49, 50, 51, 52, 53, 54, 55, 56, 57, 58, 59, 60, 61, 62, 63, 64, 65, 66, 67, 68, 69, 70, 71, 72, 73, 74, 75, 76, 77, 78, 79, 80, 81, 82, 83, 84, 85, 86, 87, 88, 89, 90, 91, 92] rfl
                    refine va_calli (va_runV (As := [.int x6_230]) (rest := []) ⟨hx, hb, hml, hown, hts⟩ (c_X5_hearers l dC dI cI cC cS a Gn109 H107.size x6_230 hG110) (cwV 1 hts gL_law_X5_hearers rfl rfl rfl (by decide +kernel) ⟨Nat.le_of_ble_eq_true rfl, Nat.le_of_ble_eq_true rfl⟩) (pV (q0 := 0) hK hPc hDc hN rfl rfl) rfl rfl hl.1 rfl (lv_room (Nat.le_of_ble_eq_true rfl)) dL_law_271 ⟨Nat.le_of_ble_eq_true rfl, Nat.le_of_ble_eq_true rfl⟩) hS (fun q _ h => hFc q h) hFc (fun r_112 u_112 t_112 H113 locs ht hvm hw hB hz1 hk1 hS => ?_)
                    obtain ⟨hw, hens114⟩ := hw
                    obtain ⟨hP1, hD1⟩ := hB
                    rw [ht] at hP1
                    have hw1 : r_112 = (f_X5_hearers Gn109 x6_230).1 := congrArg Prod.fst hw
                    have hw2 : u_112 = (f_X5_hearers Gn109 x6_230).2 := congrArg Prod.snd hw
                    clear hw
                    subst hw1
                    rw [hw2] at hP1 hD1 hens114
                    obtain ⟨hP, hD⟩ := va_join (wc := cDk a cI cC cS Gn109) (wr := []) (w1 := cDk a cI cC cS ((f_X5_hearers Gn109 x6_230).2)) hP hD [0, 1, 2, 3, 4, 5, 6, 7, 8, 9, 10, 11, 12, 13, 14, 15, 16, 17, 18, 19, 20, 21, 22, 23, 24, 25, 26, 27, 28, 29, 30, 31, 32, 33, 34, 35, 36, 37, 38, 39, 40, 41, 42, 43, 44, 45, 46, 47, 48, 49, 50, 51, 52, 53, 54, 55, 56, 57, 58, 59, 60, 61, 62, 63, 64, 65, 66, 67, 68, 69, 70, 71, 72, 73, 74, 75, 76, 77, 78, 79, 80, 81, 82, 83, 84, 85, 86, 87, 88, 89, 90, 91, 92] [] rfl rfl (by decide) (by decide) hk1 hFc hP1 hD1
                    have hP : va_P (dC, dI) vwCl (cDk a cI cC cS ((f_X5_hearers Gn109 x6_230).2)) H113 := hP.sub [0, 1, 2, 3, 4, 5, 6, 7, 8, 9, 10, 11, 12, 13, 14, 15, 16, 17, 18, 19, 20, 21, 22, 23, 24, 25, 26, 27, 28, 29, 30, 31, 32, 33, 34, 35, 36, 37, 38, 39, 40, 41, 42, 43, 44, 45, 46, 47, 48, 49, 50, 51, 52, 53, 54, 55, 56, 57, 58, 59, 60, 61, 62, 63, 64, 65, 66, 67, 68, 69, 70, 71, 72, 73, 74, 75, 76, 77, 78, 79, 80, 81, 82, 83, 84, 85, 86, 87, 88, 89, 90, 91, 92] rfl
                    have hD : va_D ((fun q : Nat => s.heap.size ≤ q)) (cDk a cI cC cS ((f_X5_hearers Gn109 x6_230).2)) := hD.sub [0, 1, 2, 3, 4, 5, 6, 7, 8, 9, 10, 11, 12, 13, 14, 15, 16, 17, 18, 19, 20, 21, 22, 23, 24, 25, 26, 27, 28, 29, 30, 31, 32, 33, 34, 35, 36, 37, 38, 39, 40, 41, 42, 43, 44, 45, 46, 47, 48, 49, 50, 51, 52, 53, 54, 55, 56, 57, 58, 59, 60, 61, 62, 63, 64, 65, 66, 67, 68, 69, 70, 71, 72, 73, 74, 75, 76, 77, 78, 79, 80, 81, 82, 83, 84, 85, 86, 87, 88, 89, 90, 91, 92] (by decide) rfl
                    obtain ⟨Gn115, eGn115⟩ : ∃ z : GR, z = (f_X5_hearers Gn109 x6_230).2 := ⟨_, rfl⟩
                    rw [sLet_eq, ← eGn115] at hR
                    rw [← eGn115] at hP hD
                    have hG116 : WFG Gn115 := by rw [eGn115]; exact hens114
                    refine lv_if_ne (tgt := 294) hx hb dL_law_274 (by decide) (fun c117 => ?_) (fun c117 => ?_)
                    · rw [if_neg c117] at hR
                      refine lv_iconst (v := 0) hx hb dL_law_294 (by decide) ?_
                      exact absurd (h1.symm.trans (congrArg Prod.fst hR)) (show ¬ (1 : Int32) = 0 by decide)
                    · rw [if_pos c117] at hR
                      refine lv_aload_n hx hb dL_law_277 rfl (lv_at hl 3 rfl) ?_
                      have hPc : va_P (dC, dI) vwCl (cDk a cI cC cS Gn115) H113 := hP.sub [0, 1, 2, 3, 4, 5, 6, 7, 8, 9, 10, 11, 12, 13, 14, 15, 16, 17, 18, 19, 20, 21, 22, 23, 24, 25, 26, 27, 28, 29, 30, 31, 32, 33, 34, 35, 36, 37, 38, 39, 40, 41, 42, 43, 44, 45, 46, 47, 48, 49, 50, 51, 52, 53, 54, 55, 56, 57, 58, 59, 60, 61, 62, 63, 64, 65, 66, 67, 68, 69, 70, 71, 72, 73, 74, 75, 76, 77, 78, 79, 80, 81, 82, 83, 84, 85, 86, 87, 88, 89, 90, 91, 92] rfl
                      have hDc : va_D ((fun q : Nat => s.heap.size ≤ q)) (cDk a cI cC cS Gn115) := hD.sub [0, 1, 2, 3, 4, 5, 6, 7, 8, 9, 10, 11, 12, 13, 14, 15, 16, 17, 18, 19, 20, 21, 22, 23, 24, 25, 26, 27, 28, 29, 30, 31, 32, 33, 34, 35, 36, 37, 38, 39, 40, 41, 42, 43, 44, 45, 46, 47, 48, 49, 50, 51, 52, 53, 54, 55, 56, 57, 58, 59, 60, 61, 62, 63, 64, 65, 66, 67, 68, 69, 70, 71, 72, 73, 74, 75, 76, 77, 78, 79, 80, 81, 82, 83, 84, 85, 86, 87, 88, 89, 90, 91, 92] (by decide) rfl
                      have hFc : ∀ q : Nat, va_A (cDk a cI cC cS Gn115) H113.size q → (fun q : Nat => s.heap.size ≤ q) q := va_free hD hS hA [0, 1, 2, 3, 4, 5, 6, 7, 8, 9, 10, 11, 12, 13, 14, 15, 16, 17, 18, 19, 20, 21, 22, 23, 24, 25, 26, 27, 28, 29, 30, 31, 32, 33, 34, 35, 36, 37, 38, 39, 40, 41, 42, 43, 44, 45, 46, 47, 48, 49, 50, 51, 52, 53, 54, 55, 56, 57, 58, 59, 60, 61, 62, 63, 64, 65, 66, 67, 68, 69, 70, 71, 72, 73, 74, 75, 76, 77, 78, 79, 80, 81, 82, 83, 84, 85, 86, 87, 88, 89, 90, 91, 92] rfl
                      refine va_calli (va_runV (As := []) (rest := []) ⟨hx, hb, hml, hown, hts⟩ (c_X5_undo l dC dI cI cC cS a Gn115 H113.size hG116) (cwV 0 hts gL_law_X5_undo rfl rfl rfl (by decide +kernel) ⟨Nat.le_of_ble_eq_true rfl, Nat.le_of_ble_eq_true rfl⟩) (pV (q0 := 0) hK hPc hDc hN rfl rfl) rfl rfl hl.1 rfl (lv_room (Nat.le_of_ble_eq_true rfl)) dL_law_278 ⟨Nat.le_of_ble_eq_true rfl, Nat.le_of_ble_eq_true rfl⟩) hS (fun q _ h => hFc q h) hFc (fun r_118 u_118 t_118 H119 locs ht hvm hw hB hz1 hk1 hS => ?_)
                      obtain ⟨hw, hens120⟩ := hw
                      obtain ⟨hP1, hD1⟩ := hB
                      rw [ht] at hP1
                      have hw1 : r_118 = (f_X5_undo Gn115).1 := congrArg Prod.fst hw
                      have hw2 : u_118 = (f_X5_undo Gn115).2 := congrArg Prod.snd hw
                      clear hw
                      subst hw1
                      rw [hw2] at hP1 hD1 hens120
                      obtain ⟨hP, hD⟩ := va_join (wc := cDk a cI cC cS Gn115) (wr := []) (w1 := cDk a cI cC cS ((f_X5_undo Gn115).2)) hP hD [0, 1, 2, 3, 4, 5, 6, 7, 8, 9, 10, 11, 12, 13, 14, 15, 16, 17, 18, 19, 20, 21, 22, 23, 24, 25, 26, 27, 28, 29, 30, 31, 32, 33, 34, 35, 36, 37, 38, 39, 40, 41, 42, 43, 44, 45, 46, 47, 48, 49, 50, 51, 52, 53, 54, 55, 56, 57, 58, 59, 60, 61, 62, 63, 64, 65, 66, 67, 68, 69, 70, 71, 72, 73, 74, 75, 76, 77, 78, 79, 80, 81, 82, 83, 84, 85, 86, 87, 88, 89, 90, 91, 92] [] rfl rfl (by decide) (by decide) hk1 hFc hP1 hD1
                      have hP : va_P (dC, dI) vwCl (cDk a cI cC cS ((f_X5_undo Gn115).2)) H119 := hP.sub [0, 1, 2, 3, 4, 5, 6, 7, 8, 9, 10, 11, 12, 13, 14, 15, 16, 17, 18, 19, 20, 21, 22, 23, 24, 25, 26, 27, 28, 29, 30, 31, 32, 33, 34, 35, 36, 37, 38, 39, 40, 41, 42, 43, 44, 45, 46, 47, 48, 49, 50, 51, 52, 53, 54, 55, 56, 57, 58, 59, 60, 61, 62, 63, 64, 65, 66, 67, 68, 69, 70, 71, 72, 73, 74, 75, 76, 77, 78, 79, 80, 81, 82, 83, 84, 85, 86, 87, 88, 89, 90, 91, 92] rfl
                      have hD : va_D ((fun q : Nat => s.heap.size ≤ q)) (cDk a cI cC cS ((f_X5_undo Gn115).2)) := hD.sub [0, 1, 2, 3, 4, 5, 6, 7, 8, 9, 10, 11, 12, 13, 14, 15, 16, 17, 18, 19, 20, 21, 22, 23, 24, 25, 26, 27, 28, 29, 30, 31, 32, 33, 34, 35, 36, 37, 38, 39, 40, 41, 42, 43, 44, 45, 46, 47, 48, 49, 50, 51, 52, 53, 54, 55, 56, 57, 58, 59, 60, 61, 62, 63, 64, 65, 66, 67, 68, 69, 70, 71, 72, 73, 74, 75, 76, 77, 78, 79, 80, 81, 82, 83, 84, 85, 86, 87, 88, 89, 90, 91, 92] (by decide) rfl
                      obtain ⟨Gn121, eGn121⟩ : ∃ z : GR, z = (f_X5_undo Gn115).2 := ⟨_, rfl⟩
                      rw [sLet_eq, ← eGn121] at hR
                      rw [← eGn121] at hP hD
                      have hG122 : WFG Gn121 := by rw [eGn121]; exact hens120
                      refine lv_if_lt (tgt := 294) hx hb dL_law_281 (by decide) (fun c123 => ?_) (fun c123 => ?_)
                      · rw [if_pos c123] at hR
                        refine lv_iconst (v := 0) hx hb dL_law_294 (by decide) ?_
                        exact absurd (h1.symm.trans (congrArg Prod.fst hR)) (show ¬ (1 : Int32) = 0 by decide)
                      · rw [if_neg c123] at hR
                        refine lv_aload_n hx hb dL_law_284 rfl (lv_at hl 3 rfl) ?_
                        have hPc : va_P (dC, dI) vwCl (cDk a cI cC cS Gn121) H119 := hP.sub [0, 1, 2, 3, 4, 5, 6, 7, 8, 9, 10, 11, 12, 13, 14, 15, 16, 17, 18, 19, 20, 21, 22, 23, 24, 25, 26, 27, 28, 29, 30, 31, 32, 33, 34, 35, 36, 37, 38, 39, 40, 41, 42, 43, 44, 45, 46, 47, 48, 49, 50, 51, 52, 53, 54, 55, 56, 57, 58, 59, 60, 61, 62, 63, 64, 65, 66, 67, 68, 69, 70, 71, 72, 73, 74, 75, 76, 77, 78, 79, 80, 81, 82, 83, 84, 85, 86, 87, 88, 89, 90, 91, 92] rfl
                        have hDc : va_D ((fun q : Nat => s.heap.size ≤ q)) (cDk a cI cC cS Gn121) := hD.sub [0, 1, 2, 3, 4, 5, 6, 7, 8, 9, 10, 11, 12, 13, 14, 15, 16, 17, 18, 19, 20, 21, 22, 23, 24, 25, 26, 27, 28, 29, 30, 31, 32, 33, 34, 35, 36, 37, 38, 39, 40, 41, 42, 43, 44, 45, 46, 47, 48, 49, 50, 51, 52, 53, 54, 55, 56, 57, 58, 59, 60, 61, 62, 63, 64, 65, 66, 67, 68, 69, 70, 71, 72, 73, 74, 75, 76, 77, 78, 79, 80, 81, 82, 83, 84, 85, 86, 87, 88, 89, 90, 91, 92] (by decide) rfl
                        have hFc : ∀ q : Nat, va_A [] H119.size q → (fun q : Nat => s.heap.size ≤ q) q := roF hS hA
                        refine va_calll (va_runS (As := [.ref (a 0)]) (rest := []) ⟨hx, hb, hml, hown, hts⟩ (c_L_digest l dC dI cI cC cS a Gn121 H119.size hG122) (va_cwS 1 hts gL_law_L_digest rfl rfl rfl (by decide +kernel) ⟨Nat.le_of_ble_eq_true rfl, Nat.le_of_ble_eq_true rfl⟩) (pSS hK hPc hDc hN hT hS hFc) rfl rfl hl.1 rfl (lv_room (Nat.le_of_ble_eq_true rfl)) dL_law_285 ⟨Nat.le_of_ble_eq_true rfl, Nat.le_of_ble_eq_true rfl⟩) hS (fun q _ h => hFc q h) hFc (fun r_124 u_124 t_124 H125 locs ht hvm hw hB hz1 hk1 hS => ?_)
                        subst hw
                        have hP := ro_keep hP hk1
                        refine lv_lload hx hb dL_law_288 (lv_at hl 0 rfl) ?_
                        refine W.lcmp hx hb dL_law_290 ?_
                        refine lv_if_eq (tgt := 296) hx hb dL_law_291 (by decide) (fun c126 => ?_) (fun c126 => ?_)
                        · rw [if_pos c126] at hR
                          refine lv_iinc (v := x2_230 + 1) (lv' := [(2, .int (x2_230 + 1)), (12, .long (f_L_digest Gn101)), (11, .int ((f_X5_cut G_230 x6_230).1)), (0, .ref (b)), (1, .ref (a 0)), (6, .int x6_230)]) hx hb dL_law_296 hl (k := 4) rfl rfl (by decide) rfl (fun ls hl => ?_)
                          refine lv_goto (tgt := 10) hx hb dL_law_299 (by decide) ?_
                          exact ih_10 (j_10 + 1) (x2_230 + 1) Gn121 (by rw [ex2_230, nI_1]) (by omega) (by omega) hG122 hR _ _ _ hP hD hS (lv_sub hl [3, 4, 0] rfl)
                        · rw [if_neg c126] at hR
                          refine lv_iconst (v := 0) hx hb dL_law_294 (by decide) ?_
                          exact absurd (h1.symm.trans (congrArg Prod.fst hR)) (show ¬ (1 : Int32) = 0 by decide)
              refine lv_if_lt (tgt := 230) hx hb dL_law_175 (by decide) (fun c127 => ?_) (fun c127 => ?_)
              · rw [if_pos c127] at hR
                exact hJ_230 x2_173 x6_173 G_173 ex2_173 hG_173 hR _ _ _ hP hD hS (lv_sub hl [0, 1, 2, 5] rfl)
              · rw [if_neg c127] at hR
                refine lv_iload_n hx hb dL_law_178 rfl (lv_at hl 2 rfl) ?_
                refine lv_iconst (v := 3) hx hb dL_law_179 (by decide) ?_
                refine lv_iand hx hb dL_law_180 ?_
                refine lv_iconst (v := 2) hx hb dL_law_181 (by decide) ?_
                refine lv_icmp_ne (tgt := 230) hx hb dL_law_182 (by decide) (fun c128 => ?_) (fun c128 => ?_)
                · rw [if_neg c128] at hR
                  exact hJ_230 x2_173 x6_173 G_173 ex2_173 hG_173 hR _ _ _ hP hD hS (lv_sub hl [0, 1, 2, 5] rfl)
                · rw [if_pos c128] at hR
                  refine lv_aload_n hx hb dL_law_185 rfl (lv_at hl 1 rfl) ?_
                  have hPc : va_P (dC, dI) vwCl (cDk a cI cC cS G_173) H := hP.sub [0, 1, 2, 3, 4, 5, 6, 7, 8, 9, 10, 11, 12, 13, 14, 15, 16, 17, 18, 19, 20, 21, 22, 23, 24, 25, 26, 27, 28, 29, 30, 31, 32, 33, 34, 35, 36, 37, 38, 39, 40, 41, 42, 43, 44, 45, 46, 47, 48, 49, 50, 51, 52, 53, 54, 55, 56, 57, 58, 59, 60, 61, 62, 63, 64, 65, 66, 67, 68, 69, 70, 71, 72, 73, 74, 75, 76, 77, 78, 79, 80, 81, 82, 83, 84, 85, 86, 87, 88, 89, 90, 91, 92] rfl
                  have hDc : va_D ((fun q : Nat => s.heap.size ≤ q)) (cDk a cI cC cS G_173) := hD.sub [0, 1, 2, 3, 4, 5, 6, 7, 8, 9, 10, 11, 12, 13, 14, 15, 16, 17, 18, 19, 20, 21, 22, 23, 24, 25, 26, 27, 28, 29, 30, 31, 32, 33, 34, 35, 36, 37, 38, 39, 40, 41, 42, 43, 44, 45, 46, 47, 48, 49, 50, 51, 52, 53, 54, 55, 56, 57, 58, 59, 60, 61, 62, 63, 64, 65, 66, 67, 68, 69, 70, 71, 72, 73, 74, 75, 76, 77, 78, 79, 80, 81, 82, 83, 84, 85, 86, 87, 88, 89, 90, 91, 92] (by decide) rfl
                  have hFc : ∀ q : Nat, va_A [] H.size q → (fun q : Nat => s.heap.size ≤ q) q := roF hS hA
                  refine va_calll (va_runS (As := [.ref (a 0)]) (rest := []) ⟨hx, hb, hml, hown, hts⟩ (c_L_digest l dC dI cI cC cS a G_173 H.size hG_173) (va_cwS 1 hts gL_law_L_digest rfl rfl rfl (by decide +kernel) ⟨Nat.le_of_ble_eq_true rfl, Nat.le_of_ble_eq_true rfl⟩) (pSS hK hPc hDc hN hT hS hFc) rfl rfl hl.1 rfl (lv_room (Nat.le_of_ble_eq_true rfl)) dL_law_186 ⟨Nat.le_of_ble_eq_true rfl, Nat.le_of_ble_eq_true rfl⟩) hS (fun q _ h => hFc q h) hFc (fun r_129 u_129 t_129 H130 locs ht hvm hw hB hz1 hk1 hS => ?_)
                  subst hw
                  have hP := ro_keep hP hk1
                  refine lv_lstore (lv' := [(11, .long (f_L_digest G_173)), (0, .ref (b)), (1, .ref (a 0)), (2, .int x2_173), (3, .int x3_173), (4, .long x4_173), (6, .int x6_173), (10, .int x10_173)]) hx hb dL_law_189 hl (by decide) rfl (fun ls hl => ?_)
                  refine lv_aload_n hx hb dL_law_191 rfl (lv_at hl 2 rfl) ?_
                  have hPc : va_P (dC, dI) vwCl (cDk a cI cC cS G_173) H130 := hP.sub [0, 1, 2, 3, 4, 5, 6, 7, 8, 9, 10, 11, 12, 13, 14, 15, 16, 17, 18, 19, 20, 21, 22, 23, 24, 25, 26, 27, 28, 29, 30, 31, 32, 33, 34, 35, 36, 37, 38, 39, 40, 41, 42, 43, 44, 45, 46, 47, 48, 49, 50, 51, 52, 53, 54, 55, 56, 57, 58, 59, 60, 61, 62, 63, 64, 65, 66, 67, 68, 69, 70, 71, 72, 73, 74, 75, 76, 77, 78, 79, 80, 81, 82, 83, 84, 85, 86, 87, 88, 89, 90, 91, 92] rfl
                  have hDc : va_D ((fun q : Nat => s.heap.size ≤ q)) (cDk a cI cC cS G_173) := hD.sub [0, 1, 2, 3, 4, 5, 6, 7, 8, 9, 10, 11, 12, 13, 14, 15, 16, 17, 18, 19, 20, 21, 22, 23, 24, 25, 26, 27, 28, 29, 30, 31, 32, 33, 34, 35, 36, 37, 38, 39, 40, 41, 42, 43, 44, 45, 46, 47, 48, 49, 50, 51, 52, 53, 54, 55, 56, 57, 58, 59, 60, 61, 62, 63, 64, 65, 66, 67, 68, 69, 70, 71, 72, 73, 74, 75, 76, 77, 78, 79, 80, 81, 82, 83, 84, 85, 86, 87, 88, 89, 90, 91, 92] (by decide) rfl
                  have hFc : ∀ q : Nat, va_A (cDk a cI cC cS G_173) H130.size q → (fun q : Nat => s.heap.size ≤ q) q := va_free hD hS hA [0, 1, 2, 3, 4, 5, 6, 7, 8, 9, 10, 11, 12, 13, 14, 15, 16, 17, 18, 19, 20, 21, 22, 23, 24, 25, 26, 27, 28, 29, 30, 31, 32, 33, 34, 35, 36, 37, 38, 39, 40, 41, 42, 43, 44, 45, 46, 47, 48, 49, 50, 51, 52, 53, 54, 55, 56, 57, 58, 59, 60, 61, 62, 63, 64, 65, 66, 67, 68, 69, 70, 71, 72, 73, 74, 75, 76, 77, 78, 79, 80, 81, 82, 83, 84, 85, 86, 87, 88, 89, 90, 91, 92] rfl
                  refine va_calli (va_runV (As := []) (rest := []) ⟨hx, hb, hml, hown, hts⟩ (c_X5_undo l dC dI cI cC cS a G_173 H130.size hG_173) (cwV 0 hts gL_law_X5_undo rfl rfl rfl (by decide +kernel) ⟨Nat.le_of_ble_eq_true rfl, Nat.le_of_ble_eq_true rfl⟩) (pV (q0 := 0) hK hPc hDc hN rfl rfl) rfl rfl hl.1 rfl (lv_room (Nat.le_of_ble_eq_true rfl)) dL_law_192 ⟨Nat.le_of_ble_eq_true rfl, Nat.le_of_ble_eq_true rfl⟩) hS (fun q _ h => hFc q h) hFc (fun r_131 u_131 t_131 H132 locs ht hvm hw hB hz1 hk1 hS => ?_)
                  obtain ⟨hw, hens133⟩ := hw
                  obtain ⟨hP1, hD1⟩ := hB
                  rw [ht] at hP1
                  have hw1 : r_131 = (f_X5_undo G_173).1 := congrArg Prod.fst hw
                  have hw2 : u_131 = (f_X5_undo G_173).2 := congrArg Prod.snd hw
                  clear hw
                  subst hw1
                  rw [hw2] at hP1 hD1 hens133
                  obtain ⟨hP, hD⟩ := va_join (wc := cDk a cI cC cS G_173) (wr := []) (w1 := cDk a cI cC cS ((f_X5_undo G_173).2)) hP hD [0, 1, 2, 3, 4, 5, 6, 7, 8, 9, 10, 11, 12, 13, 14, 15, 16, 17, 18, 19, 20, 21, 22, 23, 24, 25, 26, 27, 28, 29, 30, 31, 32, 33, 34, 35, 36, 37, 38, 39, 40, 41, 42, 43, 44, 45, 46, 47, 48, 49, 50, 51, 52, 53, 54, 55, 56, 57, 58, 59, 60, 61, 62, 63, 64, 65, 66, 67, 68, 69, 70, 71, 72, 73, 74, 75, 76, 77, 78, 79, 80, 81, 82, 83, 84, 85, 86, 87, 88, 89, 90, 91, 92] [] rfl rfl (by decide) (by decide) hk1 hFc hP1 hD1
                  have hP : va_P (dC, dI) vwCl (cDk a cI cC cS ((f_X5_undo G_173).2)) H132 := hP.sub [0, 1, 2, 3, 4, 5, 6, 7, 8, 9, 10, 11, 12, 13, 14, 15, 16, 17, 18, 19, 20, 21, 22, 23, 24, 25, 26, 27, 28, 29, 30, 31, 32, 33, 34, 35, 36, 37, 38, 39, 40, 41, 42, 43, 44, 45, 46, 47, 48, 49, 50, 51, 52, 53, 54, 55, 56, 57, 58, 59, 60, 61, 62, 63, 64, 65, 66, 67, 68, 69, 70, 71, 72, 73, 74, 75, 76, 77, 78, 79, 80, 81, 82, 83, 84, 85, 86, 87, 88, 89, 90, 91, 92] rfl
                  have hD : va_D ((fun q : Nat => s.heap.size ≤ q)) (cDk a cI cC cS ((f_X5_undo G_173).2)) := hD.sub [0, 1, 2, 3, 4, 5, 6, 7, 8, 9, 10, 11, 12, 13, 14, 15, 16, 17, 18, 19, 20, 21, 22, 23, 24, 25, 26, 27, 28, 29, 30, 31, 32, 33, 34, 35, 36, 37, 38, 39, 40, 41, 42, 43, 44, 45, 46, 47, 48, 49, 50, 51, 52, 53, 54, 55, 56, 57, 58, 59, 60, 61, 62, 63, 64, 65, 66, 67, 68, 69, 70, 71, 72, 73, 74, 75, 76, 77, 78, 79, 80, 81, 82, 83, 84, 85, 86, 87, 88, 89, 90, 91, 92] (by decide) rfl
                  obtain ⟨Gn134, eGn134⟩ : ∃ z : GR, z = (f_X5_undo G_173).2 := ⟨_, rfl⟩
                  rw [sLet_eq, ← eGn134] at hR
                  rw [← eGn134] at hP hD
                  have hG135 : WFG Gn134 := by rw [eGn134]; exact hens133
                  refine lv_if_lt (tgt := 228) hx hb dL_law_195 (by decide) (fun c136 => ?_) (fun c136 => ?_)
                  · rw [if_pos c136] at hR
                    refine lv_iconst (v := 0) hx hb dL_law_228 (by decide) ?_
                    exact absurd (h1.symm.trans (congrArg Prod.fst hR)) (show ¬ (1 : Int32) = 0 by decide)
                  · rw [if_neg c136] at hR
                    refine lv_aload_n hx hb dL_law_198 rfl (lv_at hl 2 rfl) ?_
                    have hPc : va_P (dC, dI) vwCl (cDk a cI cC cS Gn134) H132 := hP.sub [0, 1, 2, 3, 4, 5, 6, 7, 8, 9, 10, 11, 12, 13, 14, 15, 16, 17, 18, 19, 20, 21, 22, 23, 24, 25, 26, 27, 28, 29, 30, 31, 32, 33, 34, 35, 36, 37, 38, 39, 40, 41, 42, 43, 44, 45, 46, 47, 48, 49, 50, 51, 52, 53, 54, 55, 56, 57, 58, 59, 60, 61, 62, 63, 64, 65, 66, 67, 68, 69, 70, 71, 72, 73, 74, 75, 76, 77, 78, 79, 80, 81, 82, 83, 84, 85, 86, 87, 88, 89, 90, 91, 92] rfl
                    have hDc : va_D ((fun q : Nat => s.heap.size ≤ q)) (cDk a cI cC cS Gn134) := hD.sub [0, 1, 2, 3, 4, 5, 6, 7, 8, 9, 10, 11, 12, 13, 14, 15, 16, 17, 18, 19, 20, 21, 22, 23, 24, 25, 26, 27, 28, 29, 30, 31, 32, 33, 34, 35, 36, 37, 38, 39, 40, 41, 42, 43, 44, 45, 46, 47, 48, 49, 50, 51, 52, 53, 54, 55, 56, 57, 58, 59, 60, 61, 62, 63, 64, 65, 66, 67, 68, 69, 70, 71, 72, 73, 74, 75, 76, 77, 78, 79, 80, 81, 82, 83, 84, 85, 86, 87, 88, 89, 90, 91, 92] (by decide) rfl
                    have hFc : ∀ q : Nat, va_A [] H132.size q → (fun q : Nat => s.heap.size ≤ q) q := roF hS hA
                    refine va_calll (va_runS (As := [.ref (a 0)]) (rest := []) ⟨hx, hb, hml, hown, hts⟩ (c_L_digest l dC dI cI cC cS a Gn134 H132.size hG135) (va_cwS 1 hts gL_law_L_digest rfl rfl rfl (by decide +kernel) ⟨Nat.le_of_ble_eq_true rfl, Nat.le_of_ble_eq_true rfl⟩) (pSS hK hPc hDc hN hT hS hFc) rfl rfl hl.1 rfl (lv_room (Nat.le_of_ble_eq_true rfl)) dL_law_199 ⟨Nat.le_of_ble_eq_true rfl, Nat.le_of_ble_eq_true rfl⟩) hS (fun q _ h => hFc q h) hFc (fun r_137 u_137 t_137 H138 locs ht hvm hw hB hz1 hk1 hS => ?_)
                    subst hw
                    have hP := ro_keep hP hk1
                    refine lv_lload hx hb dL_law_202 (lv_at hl 5 rfl) ?_
                    refine W.lcmp hx hb dL_law_204 ?_
                    refine lv_if_ne (tgt := 228) hx hb dL_law_205 (by decide) (fun c139 => ?_) (fun c139 => ?_)
                    · rw [if_neg c139] at hR
                      refine lv_iconst (v := 0) hx hb dL_law_228 (by decide) ?_
                      exact absurd (h1.symm.trans (congrArg Prod.fst hR)) (show ¬ (1 : Int32) = 0 by decide)
                    · rw [if_pos c139] at hR
                      refine lv_aload_n hx hb dL_law_208 rfl (lv_at hl 2 rfl) ?_
                      refine lv_iload_n hx hb dL_law_209 rfl (lv_at hl 4 rfl) ?_
                      have hPc : va_P (dC, dI) vwCl (cDk a cI cC cS Gn134) H138 := hP.sub [0, 1, 2, 3, 4, 5, 6, 7, 8, 9, 10, 11, 12, 13, 14, 15, 16, 17, 18, 19, 20, 21, 22, 23, 24, 25, 26, 27, 28, 29, 30, 31, 32, 33, 34, 35, 36, 37, 38, 39, 40, 41, 42, 43, 44, 45, 46, 47, 48, 49, 50, 51, 52, 53, 54, 55, 56, 57, 58, 59, 60, 61, 62, 63, 64, 65, 66, 67, 68, 69, 70, 71, 72, 73, 74, 75, 76, 77, 78, 79, 80, 81, 82, 83, 84, 85, 86, 87, 88, 89, 90, 91, 92] rfl
                      have hDc : va_D ((fun q : Nat => s.heap.size ≤ q)) (cDk a cI cC cS Gn134) := hD.sub [0, 1, 2, 3, 4, 5, 6, 7, 8, 9, 10, 11, 12, 13, 14, 15, 16, 17, 18, 19, 20, 21, 22, 23, 24, 25, 26, 27, 28, 29, 30, 31, 32, 33, 34, 35, 36, 37, 38, 39, 40, 41, 42, 43, 44, 45, 46, 47, 48, 49, 50, 51, 52, 53, 54, 55, 56, 57, 58, 59, 60, 61, 62, 63, 64, 65, 66, 67, 68, 69, 70, 71, 72, 73, 74, 75, 76, 77, 78, 79, 80, 81, 82, 83, 84, 85, 86, 87, 88, 89, 90, 91, 92] (by decide) rfl
                      have hFc : ∀ q : Nat, va_A (cDk a cI cC cS Gn134) H138.size q → (fun q : Nat => s.heap.size ≤ q) q := va_free hD hS hA [0, 1, 2, 3, 4, 5, 6, 7, 8, 9, 10, 11, 12, 13, 14, 15, 16, 17, 18, 19, 20, 21, 22, 23, 24, 25, 26, 27, 28, 29, 30, 31, 32, 33, 34, 35, 36, 37, 38, 39, 40, 41, 42, 43, 44, 45, 46, 47, 48, 49, 50, 51, 52, 53, 54, 55, 56, 57, 58, 59, 60, 61, 62, 63, 64, 65, 66, 67, 68, 69, 70, 71, 72, 73, 74, 75, 76, 77, 78, 79, 80, 81, 82, 83, 84, 85, 86, 87, 88, 89, 90, 91, 92] rfl
                      refine va_calli (va_runS (As := [.ref (a 0), .int x3_173]) (rest := []) ⟨hx, hb, hml, hown, hts⟩ (c_L_act l dC dI cI cC cS a Gn134 H138.size x3_173 hG135) (va_cwS 2 hts gL_law_L_act rfl rfl rfl (by decide +kernel) ⟨Nat.le_of_ble_eq_true rfl, Nat.le_of_ble_eq_true rfl⟩) (pSS hK hPc hDc hN hT hS hFc) rfl rfl hl.1 rfl (lv_room (Nat.le_of_ble_eq_true rfl)) dL_law_210 ⟨Nat.le_of_ble_eq_true rfl, Nat.le_of_ble_eq_true rfl⟩) hS (fun q _ h => hFc q h) hFc (fun r_140 u_140 t_140 H141 locs ht hvm hw hB hz1 hk1 hS => ?_)
                      obtain ⟨hw, hens142⟩ := hw
                      obtain ⟨hP1, hD1⟩ := hB
                      rw [ht] at hP1
                      have hw1 : r_140 = (f_L_act Gn134 x3_173).1 := congrArg Prod.fst hw
                      have hw2 : u_140 = (f_L_act Gn134 x3_173).2 := congrArg Prod.snd hw
                      clear hw
                      subst hw1
                      rw [hw2] at hP1 hD1 hens142
                      obtain ⟨hP, hD⟩ := va_join (wc := cDk a cI cC cS Gn134) (wr := []) (w1 := cDk a cI cC cS ((f_L_act Gn134 x3_173).2)) hP hD [0, 1, 2, 3, 4, 5, 6, 7, 8, 9, 10, 11, 12, 13, 14, 15, 16, 17, 18, 19, 20, 21, 22, 23, 24, 25, 26, 27, 28, 29, 30, 31, 32, 33, 34, 35, 36, 37, 38, 39, 40, 41, 42, 43, 44, 45, 46, 47, 48, 49, 50, 51, 52, 53, 54, 55, 56, 57, 58, 59, 60, 61, 62, 63, 64, 65, 66, 67, 68, 69, 70, 71, 72, 73, 74, 75, 76, 77, 78, 79, 80, 81, 82, 83, 84, 85, 86, 87, 88, 89, 90, 91, 92] [] rfl rfl (by decide) (by decide) hk1 hFc hP1 hD1
                      have hP : va_P (dC, dI) vwCl (cDk a cI cC cS ((f_L_act Gn134 x3_173).2)) H141 := hP.sub [0, 1, 2, 3, 4, 5, 6, 7, 8, 9, 10, 11, 12, 13, 14, 15, 16, 17, 18, 19, 20, 21, 22, 23, 24, 25, 26, 27, 28, 29, 30, 31, 32, 33, 34, 35, 36, 37, 38, 39, 40, 41, 42, 43, 44, 45, 46, 47, 48, 49, 50, 51, 52, 53, 54, 55, 56, 57, 58, 59, 60, 61, 62, 63, 64, 65, 66, 67, 68, 69, 70, 71, 72, 73, 74, 75, 76, 77, 78, 79, 80, 81, 82, 83, 84, 85, 86, 87, 88, 89, 90, 91, 92] rfl
                      have hD : va_D ((fun q : Nat => s.heap.size ≤ q)) (cDk a cI cC cS ((f_L_act Gn134 x3_173).2)) := hD.sub [0, 1, 2, 3, 4, 5, 6, 7, 8, 9, 10, 11, 12, 13, 14, 15, 16, 17, 18, 19, 20, 21, 22, 23, 24, 25, 26, 27, 28, 29, 30, 31, 32, 33, 34, 35, 36, 37, 38, 39, 40, 41, 42, 43, 44, 45, 46, 47, 48, 49, 50, 51, 52, 53, 54, 55, 56, 57, 58, 59, 60, 61, 62, 63, 64, 65, 66, 67, 68, 69, 70, 71, 72, 73, 74, 75, 76, 77, 78, 79, 80, 81, 82, 83, 84, 85, 86, 87, 88, 89, 90, 91, 92] (by decide) rfl
                      obtain ⟨Gn143, eGn143⟩ : ∃ z : GR, z = (f_L_act Gn134 x3_173).2 := ⟨_, rfl⟩
                      rw [sLet_eq, ← eGn143] at hR
                      rw [← eGn143] at hP hD
                      have hG144 : WFG Gn143 := by rw [eGn143]; exact hens142
                      refine lv_iload hx hb dL_law_213 (lv_at hl 7 rfl) ?_
                      refine lv_icmp_ne (tgt := 228) hx hb dL_law_215 (by decide) (fun c145 => ?_) (fun c145 => ?_)
                      · rw [if_neg c145] at hR
                        refine lv_iconst (v := 0) hx hb dL_law_228 (by decide) ?_
                        exact absurd (h1.symm.trans (congrArg Prod.fst hR)) (show ¬ (1 : Int32) = 0 by decide)
                      · rw [if_pos c145] at hR
                        refine lv_aload_n hx hb dL_law_218 rfl (lv_at hl 2 rfl) ?_
                        have hPc : va_P (dC, dI) vwCl (cDk a cI cC cS Gn143) H141 := hP.sub [0, 1, 2, 3, 4, 5, 6, 7, 8, 9, 10, 11, 12, 13, 14, 15, 16, 17, 18, 19, 20, 21, 22, 23, 24, 25, 26, 27, 28, 29, 30, 31, 32, 33, 34, 35, 36, 37, 38, 39, 40, 41, 42, 43, 44, 45, 46, 47, 48, 49, 50, 51, 52, 53, 54, 55, 56, 57, 58, 59, 60, 61, 62, 63, 64, 65, 66, 67, 68, 69, 70, 71, 72, 73, 74, 75, 76, 77, 78, 79, 80, 81, 82, 83, 84, 85, 86, 87, 88, 89, 90, 91, 92] rfl
                        have hDc : va_D ((fun q : Nat => s.heap.size ≤ q)) (cDk a cI cC cS Gn143) := hD.sub [0, 1, 2, 3, 4, 5, 6, 7, 8, 9, 10, 11, 12, 13, 14, 15, 16, 17, 18, 19, 20, 21, 22, 23, 24, 25, 26, 27, 28, 29, 30, 31, 32, 33, 34, 35, 36, 37, 38, 39, 40, 41, 42, 43, 44, 45, 46, 47, 48, 49, 50, 51, 52, 53, 54, 55, 56, 57, 58, 59, 60, 61, 62, 63, 64, 65, 66, 67, 68, 69, 70, 71, 72, 73, 74, 75, 76, 77, 78, 79, 80, 81, 82, 83, 84, 85, 86, 87, 88, 89, 90, 91, 92] (by decide) rfl
                        have hFc : ∀ q : Nat, va_A [] H141.size q → (fun q : Nat => s.heap.size ≤ q) q := roF hS hA
                        refine va_calll (va_runS (As := [.ref (a 0)]) (rest := []) ⟨hx, hb, hml, hown, hts⟩ (c_L_digest l dC dI cI cC cS a Gn143 H141.size hG144) (va_cwS 1 hts gL_law_L_digest rfl rfl rfl (by decide +kernel) ⟨Nat.le_of_ble_eq_true rfl, Nat.le_of_ble_eq_true rfl⟩) (pSS hK hPc hDc hN hT hS hFc) rfl rfl hl.1 rfl (lv_room (Nat.le_of_ble_eq_true rfl)) dL_law_219 ⟨Nat.le_of_ble_eq_true rfl, Nat.le_of_ble_eq_true rfl⟩) hS (fun q _ h => hFc q h) hFc (fun r_146 u_146 t_146 H147 locs ht hvm hw hB hz1 hk1 hS => ?_)
                        subst hw
                        have hP := ro_keep hP hk1
                        refine lv_lload hx hb dL_law_222 (lv_at hl 0 rfl) ?_
                        refine W.lcmp hx hb dL_law_224 ?_
                        refine lv_if_eq (tgt := 230) hx hb dL_law_225 (by decide) (fun c148 => ?_) (fun c148 => ?_)
                        · rw [if_pos c148] at hR
                          exact hJ_230 x2_173 x6_173 Gn143 ex2_173 hG144 hR _ _ _ hP hD hS (lv_sub hl [1, 2, 3, 6] rfl)
                        · rw [if_neg c148] at hR
                          refine lv_iconst (v := 0) hx hb dL_law_228 (by decide) ?_
                          exact absurd (h1.symm.trans (congrArg Prod.fst hR)) (show ¬ (1 : Int32) = 0 by decide)
            refine lv_icmp_ne (tgt := 173) hx hb dL_law_126 (by decide) (fun c149 => ?_) (fun c149 => ?_)
            · rw [if_neg c149] at hR
              exact hJ_173 x2_111 x3_111 x4_111 x6_111 x10_111 Gn95 ex2_111 hG96 hR _ _ _ hP hD hS (lv_sub hl [0, 1, 2, 3, 4, 5, 8] rfl)
            · rw [if_pos c149] at hR
              refine lv_aload_n hx hb dL_law_129 rfl (lv_at hl 1 rfl) ?_
              refine lv_iload hx hb dL_law_130 (lv_at hl 5 rfl) ?_
              refine lv_iconst (v := 2) hx hb dL_law_132 (by decide) ?_
              have hPc : va_P (dC, dI) vwCl (cDk a cI cC cS Gn95) H92 := hP.sub [0, 1, 2, 3, 4, 5, 6, 7, 8, 9, 10, 11, 12, 13, 14, 15, 16, 17, 18, 19, 20, 21, 22, 23, 24, 25, 26, 27, 28, 29, 30, 31, 32, 33, 34, 35, 36, 37, 38, 39, 40, 41, 42, 43, 44, 45, 46, 47, 48, 49, 50, 51, 52, 53, 54, 55, 56, 57, 58, 59, 60, 61, 62, 63, 64, 65, 66, 67, 68, 69, 70, 71, 72, 73, 74, 75, 76, 77, 78, 79, 80, 81, 82, 83, 84, 85, 86, 87, 88, 89, 90, 91, 92] rfl
              have hDc : va_D ((fun q : Nat => s.heap.size ≤ q)) (cDk a cI cC cS Gn95) := hD.sub [0, 1, 2, 3, 4, 5, 6, 7, 8, 9, 10, 11, 12, 13, 14, 15, 16, 17, 18, 19, 20, 21, 22, 23, 24, 25, 26, 27, 28, 29, 30, 31, 32, 33, 34, 35, 36, 37, 38, 39, 40, 41, 42, 43, 44, 45, 46, 47, 48, 49, 50, 51, 52, 53, 54, 55, 56, 57, 58, 59, 60, 61, 62, 63, 64, 65, 66, 67, 68, 69, 70, 71, 72, 73, 74, 75, 76, 77, 78, 79, 80, 81, 82, 83, 84, 85, 86, 87, 88, 89, 90, 91, 92] (by decide) rfl
              have hFc : ∀ q : Nat, va_A [] H92.size q → (fun q : Nat => s.heap.size ≤ q) q := roF hS hA
              refine va_calli (va_runV (As := [.int x6_111, .int 2]) (rest := []) ⟨hx, hb, hml, hown, hts⟩ (c_X5_feed l dC dI cI cC cS a Gn95 H92.size x6_111 2 hG96) (cwV 2 hts gL_law_X5_feed rfl rfl rfl (by decide +kernel) ⟨Nat.le_of_ble_eq_true rfl, Nat.le_of_ble_eq_true rfl⟩) (pV (q0 := 0) hK hPc hDc hN rfl rfl) rfl rfl hl.1 rfl (lv_room (Nat.le_of_ble_eq_true rfl)) dL_law_133 ⟨Nat.le_of_ble_eq_true rfl, Nat.le_of_ble_eq_true rfl⟩) hS (fun q _ h => hFc q h) hFc (fun r_150 u_150 t_150 H151 locs ht hvm hw hB hz1 hk1 hS => ?_)
              subst hw
              have hP := ro_keep hP hk1
              refine lv_iload hx hb dL_law_136 (lv_at hl 6 rfl) ?_
              refine lv_icmp_ne (tgt := 171) hx hb dL_law_138 (by decide) (fun c152 => ?_) (fun c152 => ?_)
              · rw [if_neg c152] at hR
                refine lv_iconst (v := 0) hx hb dL_law_171 (by decide) ?_
                exact absurd (h1.symm.trans (congrArg Prod.fst hR)) (show ¬ (1 : Int32) = 0 by decide)
              · rw [if_pos c152] at hR
                refine lv_iload hx hb dL_law_141 (lv_at hl 8 rfl) ?_
                refine lv_aload_n hx hb dL_law_143 rfl (lv_at hl 1 rfl) ?_
                refine lv_iconst (v := 1) hx hb dL_law_144 (by decide) ?_
                have hPc : va_P (dC, dI) vwCl (cDk a cI cC cS Gn95) H151 := hP.sub [0, 1, 2, 3, 4, 5, 6, 7, 8, 9, 10, 11, 12, 13, 14, 15, 16, 17, 18, 19, 20, 21, 22, 23, 24, 25, 26, 27, 28, 29, 30, 31, 32, 33, 34, 35, 36, 37, 38, 39, 40, 41, 42, 43, 44, 45, 46, 47, 48, 49, 50, 51, 52, 53, 54, 55, 56, 57, 58, 59, 60, 61, 62, 63, 64, 65, 66, 67, 68, 69, 70, 71, 72, 73, 74, 75, 76, 77, 78, 79, 80, 81, 82, 83, 84, 85, 86, 87, 88, 89, 90, 91, 92] rfl
                have hDc : va_D ((fun q : Nat => s.heap.size ≤ q)) (cDk a cI cC cS Gn95) := hD.sub [0, 1, 2, 3, 4, 5, 6, 7, 8, 9, 10, 11, 12, 13, 14, 15, 16, 17, 18, 19, 20, 21, 22, 23, 24, 25, 26, 27, 28, 29, 30, 31, 32, 33, 34, 35, 36, 37, 38, 39, 40, 41, 42, 43, 44, 45, 46, 47, 48, 49, 50, 51, 52, 53, 54, 55, 56, 57, 58, 59, 60, 61, 62, 63, 64, 65, 66, 67, 68, 69, 70, 71, 72, 73, 74, 75, 76, 77, 78, 79, 80, 81, 82, 83, 84, 85, 86, 87, 88, 89, 90, 91, 92] (by decide) rfl
                have hFc : ∀ q : Nat, va_A [] H151.size q → (fun q : Nat => s.heap.size ≤ q) q := roF hS hA
                refine va_calli (va_runV (As := [.int 1]) (rest := [.int x10_111]) ⟨hx, hb, hml, hown, hts⟩ (c_X5_count l dC dI cI cC cS a Gn95 H151.size 1 hG96) (cwV 1 hts gL_law_X5_count rfl rfl rfl (by decide +kernel) ⟨Nat.le_of_ble_eq_true rfl, Nat.le_of_ble_eq_true rfl⟩) (pV (q0 := 0) hK hPc hDc hN rfl rfl) rfl rfl hl.1 rfl (lv_room (Nat.le_of_ble_eq_true rfl)) dL_law_145 ⟨Nat.le_of_ble_eq_true rfl, Nat.le_of_ble_eq_true rfl⟩) hS (fun q _ h => hFc q h) hFc (fun r_153 u_153 t_153 H154 locs ht hvm hw hB hz1 hk1 hS => ?_)
                subst hw
                have hP := ro_keep hP hk1
                refine lv_icmp_ne (tgt := 171) hx hb dL_law_148 (by decide) (fun c155 => ?_) (fun c155 => ?_)
                · rw [if_neg c155] at hR
                  refine lv_iconst (v := 0) hx hb dL_law_171 (by decide) ?_
                  exact absurd (h1.symm.trans (congrArg Prod.fst hR)) (show ¬ (1 : Int32) = 0 by decide)
                · rw [if_pos c155] at hR
                  refine lv_aload_n hx hb dL_law_151 rfl (lv_at hl 1 rfl) ?_
                  refine lv_iconst (v := 2) hx hb dL_law_152 (by decide) ?_
                  have hPc : va_P (dC, dI) vwCl (cDk a cI cC cS Gn95) H154 := hP.sub [0, 1, 2, 3, 4, 5, 6, 7, 8, 9, 10, 11, 12, 13, 14, 15, 16, 17, 18, 19, 20, 21, 22, 23, 24, 25, 26, 27, 28, 29, 30, 31, 32, 33, 34, 35, 36, 37, 38, 39, 40, 41, 42, 43, 44, 45, 46, 47, 48, 49, 50, 51, 52, 53, 54, 55, 56, 57, 58, 59, 60, 61, 62, 63, 64, 65, 66, 67, 68, 69, 70, 71, 72, 73, 74, 75, 76, 77, 78, 79, 80, 81, 82, 83, 84, 85, 86, 87, 88, 89, 90, 91, 92] rfl
                  have hDc : va_D ((fun q : Nat => s.heap.size ≤ q)) (cDk a cI cC cS Gn95) := hD.sub [0, 1, 2, 3, 4, 5, 6, 7, 8, 9, 10, 11, 12, 13, 14, 15, 16, 17, 18, 19, 20, 21, 22, 23, 24, 25, 26, 27, 28, 29, 30, 31, 32, 33, 34, 35, 36, 37, 38, 39, 40, 41, 42, 43, 44, 45, 46, 47, 48, 49, 50, 51, 52, 53, 54, 55, 56, 57, 58, 59, 60, 61, 62, 63, 64, 65, 66, 67, 68, 69, 70, 71, 72, 73, 74, 75, 76, 77, 78, 79, 80, 81, 82, 83, 84, 85, 86, 87, 88, 89, 90, 91, 92] (by decide) rfl
                  have hFc : ∀ q : Nat, va_A [] H154.size q → (fun q : Nat => s.heap.size ≤ q) q := roF hS hA
                  refine va_calli (va_runV (As := [.int 2]) (rest := []) ⟨hx, hb, hml, hown, hts⟩ (c_X5_count l dC dI cI cC cS a Gn95 H154.size 2 hG96) (cwV 1 hts gL_law_X5_count rfl rfl rfl (by decide +kernel) ⟨Nat.le_of_ble_eq_true rfl, Nat.le_of_ble_eq_true rfl⟩) (pV (q0 := 0) hK hPc hDc hN rfl rfl) rfl rfl hl.1 rfl (lv_room (Nat.le_of_ble_eq_true rfl)) dL_law_153 ⟨Nat.le_of_ble_eq_true rfl, Nat.le_of_ble_eq_true rfl⟩) hS (fun q _ h => hFc q h) hFc (fun r_156 u_156 t_156 H157 locs ht hvm hw hB hz1 hk1 hS => ?_)
                  subst hw
                  have hP := ro_keep hP hk1
                  refine lv_iload hx hb dL_law_156 (lv_at hl 7 rfl) ?_
                  refine lv_icmp_lt (tgt := 171) hx hb dL_law_158 (by decide) (fun c158 => ?_) (fun c158 => ?_)
                  · rw [if_pos c158] at hR
                    refine lv_iconst (v := 0) hx hb dL_law_171 (by decide) ?_
                    exact absurd (h1.symm.trans (congrArg Prod.fst hR)) (show ¬ (1 : Int32) = 0 by decide)
                  · rw [if_neg c158] at hR
                    refine lv_aload_n hx hb dL_law_161 rfl (lv_at hl 1 rfl) ?_
                    refine lv_iconst (v := 2) hx hb dL_law_162 (by decide) ?_
                    have hPc : va_P (dC, dI) vwCl (cDk a cI cC cS Gn95) H157 := hP.sub [0, 1, 2, 3, 4, 5, 6, 7, 8, 9, 10, 11, 12, 13, 14, 15, 16, 17, 18, 19, 20, 21, 22, 23, 24, 25, 26, 27, 28, 29, 30, 31, 32, 33, 34, 35, 36, 37, 38, 39, 40, 41, 42, 43, 44, 45, 46, 47, 48, 49, 50, 51, 52, 53, 54, 55, 56, 57, 58, 59, 60, 61, 62, 63, 64, 65, 66, 67, 68, 69, 70, 71, 72, 73, 74, 75, 76, 77, 78, 79, 80, 81, 82, 83, 84, 85, 86, 87, 88, 89, 90, 91, 92] rfl
                    have hDc : va_D ((fun q : Nat => s.heap.size ≤ q)) (cDk a cI cC cS Gn95) := hD.sub [0, 1, 2, 3, 4, 5, 6, 7, 8, 9, 10, 11, 12, 13, 14, 15, 16, 17, 18, 19, 20, 21, 22, 23, 24, 25, 26, 27, 28, 29, 30, 31, 32, 33, 34, 35, 36, 37, 38, 39, 40, 41, 42, 43, 44, 45, 46, 47, 48, 49, 50, 51, 52, 53, 54, 55, 56, 57, 58, 59, 60, 61, 62, 63, 64, 65, 66, 67, 68, 69, 70, 71, 72, 73, 74, 75, 76, 77, 78, 79, 80, 81, 82, 83, 84, 85, 86, 87, 88, 89, 90, 91, 92] (by decide) rfl
                    have hFc : ∀ q : Nat, va_A [] H157.size q → (fun q : Nat => s.heap.size ≤ q) q := roF hS hA
                    refine va_calli (va_runV (As := [.int 2]) (rest := []) ⟨hx, hb, hml, hown, hts⟩ (c_X5_count l dC dI cI cC cS a Gn95 H157.size 2 hG96) (cwV 1 hts gL_law_X5_count rfl rfl rfl (by decide +kernel) ⟨Nat.le_of_ble_eq_true rfl, Nat.le_of_ble_eq_true rfl⟩) (pV (q0 := 0) hK hPc hDc hN rfl rfl) rfl rfl hl.1 rfl (lv_room (Nat.le_of_ble_eq_true rfl)) dL_law_163 ⟨Nat.le_of_ble_eq_true rfl, Nat.le_of_ble_eq_true rfl⟩) hS (fun q _ h => hFc q h) hFc (fun r_159 u_159 t_159 H160 locs ht hvm hw hB hz1 hk1 hS => ?_)
                    subst hw
                    have hP := ro_keep hP hk1
                    refine lv_iload hx hb dL_law_166 (lv_at hl 8 rfl) ?_
                    refine lv_icmp_ge (tgt := 173) hx hb dL_law_168 (by decide) (fun c161 => ?_) (fun c161 => ?_)
                    · rw [if_pos c161] at hR
                      exact hJ_173 x2_111 x3_111 x4_111 x6_111 x10_111 Gn95 ex2_111 hG96 hR _ _ _ hP hD hS (lv_sub hl [0, 1, 2, 3, 4, 5, 8] rfl)
                    · rw [if_neg c161] at hR
                      refine lv_iconst (v := 0) hx hb dL_law_171 (by decide) ?_
                      exact absurd (h1.symm.trans (congrArg Prod.fst hR)) (show ¬ (1 : Int32) = 0 by decide)
          · rw [if_pos c97] at hR
            refine lv_iconst (v := 0) hx hb dL_law_118 (by decide) ?_
            exact absurd (h1.symm.trans (congrArg Prod.fst hR)) (show ¬ (1 : Int32) = 0 by decide)
        have hJ_101 : ∀ (x2_101 : Int32) (x3_101 : Int32) (x4_101 : Int64) (x6_101 : Int32) (x8_101 : Int32) (x9_101 : Int32) (x10_101 : Int32)  (G_101 : GR), x2_101 = nI j_10 → WFG G_101 → R0 = f_L_law_p101 L xs (f_L_law_p10 L xs n_10) x2_101 x3_101 x4_101 x6_101 x8_101 x9_101 x10_101 G_101 → ∀ (H : Heap) (locs : List Loc) (ls : Array Slot), va_P (dC, dI) vwCl (cDk a cI cC cS G_101) H → va_D ((fun q : Nat => s.heap.size ≤ q)) (cDk a cI cC cS G_101) → va_S ((fun q : Nat => s.heap.size ≤ q)) s.heap H locs → lv_has ls 14 [(0, .ref (b)), (1, .ref (a 0)), (2, .int x2_101), (3, .int x3_101), (4, .long x4_101), (6, .int x6_101), (8, .int x8_101), (9, .int x9_101), (10, .int x10_101)] → W p l e room_1 s m #[Value.ref b] below meth c H locs 93 1959 (lw_Z below #[Value.ref b] s) (F0 m 101 ls []) := by
          intro x2_101 x3_101 x4_101 x6_101 x8_101 x9_101 x10_101 G_101 ex2_101 hG_101 hR H locs ls hP hD hS hl
          rw [f_L_law_p101] at hR
          refine lv_aload_n hx hb dL_law_101 rfl (lv_at hl 1 rfl) ?_
          have hPc : va_P (dC, dI) vwCl (cDk a cI cC cS G_101) H := hP.sub [0, 1, 2, 3, 4, 5, 6, 7, 8, 9, 10, 11, 12, 13, 14, 15, 16, 17, 18, 19, 20, 21, 22, 23, 24, 25, 26, 27, 28, 29, 30, 31, 32, 33, 34, 35, 36, 37, 38, 39, 40, 41, 42, 43, 44, 45, 46, 47, 48, 49, 50, 51, 52, 53, 54, 55, 56, 57, 58, 59, 60, 61, 62, 63, 64, 65, 66, 67, 68, 69, 70, 71, 72, 73, 74, 75, 76, 77, 78, 79, 80, 81, 82, 83, 84, 85, 86, 87, 88, 89, 90, 91, 92] rfl
          have hDc : va_D ((fun q : Nat => s.heap.size ≤ q)) (cDk a cI cC cS G_101) := hD.sub [0, 1, 2, 3, 4, 5, 6, 7, 8, 9, 10, 11, 12, 13, 14, 15, 16, 17, 18, 19, 20, 21, 22, 23, 24, 25, 26, 27, 28, 29, 30, 31, 32, 33, 34, 35, 36, 37, 38, 39, 40, 41, 42, 43, 44, 45, 46, 47, 48, 49, 50, 51, 52, 53, 54, 55, 56, 57, 58, 59, 60, 61, 62, 63, 64, 65, 66, 67, 68, 69, 70, 71, 72, 73, 74, 75, 76, 77, 78, 79, 80, 81, 82, 83, 84, 85, 86, 87, 88, 89, 90, 91, 92] (by decide) rfl
          have hFc : ∀ q : Nat, va_A [] H.size q → (fun q : Nat => s.heap.size ≤ q) q := roF hS hA
          refine va_calll (va_runS (As := [.ref (a 0)]) (rest := []) ⟨hx, hb, hml, hown, hts⟩ (c_L_digest l dC dI cI cC cS a G_101 H.size hG_101) (va_cwS 1 hts gL_law_L_digest rfl rfl rfl (by decide +kernel) ⟨Nat.le_of_ble_eq_true rfl, Nat.le_of_ble_eq_true rfl⟩) (pSS hK hPc hDc hN hT hS hFc) rfl rfl hl.1 rfl (lv_room (Nat.le_of_ble_eq_true rfl)) dL_law_102 ⟨Nat.le_of_ble_eq_true rfl, Nat.le_of_ble_eq_true rfl⟩) hS (fun q _ h => hFc q h) hFc (fun r_162 u_162 t_162 H163 locs ht hvm hw hB hz1 hk1 hS => ?_)
          subst hw
          have hP := ro_keep hP hk1
          refine lv_lload hx hb dL_law_105 (lv_at hl 4 rfl) ?_
          refine W.lcmp hx hb dL_law_107 ?_
          refine lv_if_ne (tgt := 118) hx hb dL_law_108 (by decide) (fun c164 => ?_) (fun c164 => ?_)
          · rw [if_neg c164] at hR
            refine lv_iconst (v := 0) hx hb dL_law_118 (by decide) ?_
            exact absurd (h1.symm.trans (congrArg Prod.fst hR)) (show ¬ (1 : Int32) = 0 by decide)
          · rw [if_pos c164] at hR
            exact hJ_111 x2_101 x3_101 x4_101 x6_101 x8_101 x9_101 x10_101 G_101 ex2_101 hG_101 hR _ _ _ hP hD hS (lv_sub hl [0, 1, 2, 3, 4, 5, 6, 7, 8] rfl)
        have hJ_87 : ∀ (x2_87 : Int32) (x3_87 : Int32) (x4_87 : Int64) (x6_87 : Int32) (x8_87 : Int32) (x9_87 : Int32) (x10_87 : Int32)  (G_87 : GR), x2_87 = nI j_10 → WFG G_87 → R0 = f_L_law_p87 L xs (f_L_law_p10 L xs n_10) x2_87 x3_87 x4_87 x6_87 x8_87 x9_87 x10_87 G_87 → ∀ (H : Heap) (locs : List Loc) (ls : Array Slot), va_P (dC, dI) vwCl (cDk a cI cC cS G_87) H → va_D ((fun q : Nat => s.heap.size ≤ q)) (cDk a cI cC cS G_87) → va_S ((fun q : Nat => s.heap.size ≤ q)) s.heap H locs → lv_has ls 14 [(0, .ref (b)), (1, .ref (a 0)), (2, .int x2_87), (3, .int x3_87), (4, .long x4_87), (6, .int x6_87), (8, .int x8_87), (9, .int x9_87), (10, .int x10_87)] → W p l e room_1 s m #[Value.ref b] below meth c H locs 93 1959 (lw_Z below #[Value.ref b] s) (F0 m 87 ls []) := by
          intro x2_87 x3_87 x4_87 x6_87 x8_87 x9_87 x10_87 G_87 ex2_87 hG_87 hR H locs ls hP hD hS hl
          rw [f_L_law_p87] at hR
          refine lv_iload hx hb dL_law_87 (lv_at hl 8 rfl) ?_
          refine lv_bipush (v := (-2)) hx hb dL_law_89 (by decide) ?_
          refine lv_icmp_eq (tgt := 101) hx hb dL_law_91 (by decide) (fun c165 => ?_) (fun c165 => ?_)
          · rw [if_pos c165] at hR
            exact hJ_101 x2_87 x3_87 x4_87 x6_87 x8_87 x9_87 x10_87 G_87 ex2_87 hG_87 hR _ _ _ hP hD hS (lv_sub hl [0, 1, 2, 3, 4, 5, 6, 7, 8] rfl)
          · rw [if_neg c165] at hR
            refine lv_iload hx hb dL_law_94 (lv_at hl 8 rfl) ?_
            refine lv_bipush (v := (-3)) hx hb dL_law_96 (by decide) ?_
            refine lv_icmp_ne (tgt := 111) hx hb dL_law_98 (by decide) (fun c166 => ?_) (fun c166 => ?_)
            · rw [if_neg c166] at hR
              exact hJ_111 x2_87 x3_87 x4_87 x6_87 x8_87 x9_87 x10_87 G_87 ex2_87 hG_87 hR _ _ _ hP hD hS (lv_sub hl [0, 1, 2, 3, 4, 5, 6, 7, 8] rfl)
            · rw [if_pos c166] at hR
              exact hJ_101 x2_87 x3_87 x4_87 x6_87 x8_87 x9_87 x10_87 G_87 ex2_87 hG_87 hR _ _ _ hP hD hS (lv_sub hl [0, 1, 2, 3, 4, 5, 6, 7, 8] rfl)
        refine lv_icmp_ne (tgt := 87) hx hb dL_law_75 (by decide) (fun c167 => ?_) (fun c167 => ?_)
        · rw [if_neg c167] at hR
          exact hJ_87 x2_10 (f_L_cell L xs x2_10) (f_L_digest G_10) (((f_L_cell L xs x2_10) >>> (6 &&& 31)) &&& 3) ((f_X5_outputIn G_10 (((f_L_cell L xs x2_10) >>> (6 &&& 31)) &&& 3) ((1 : Int32) + (f_L_low ((f_L_cell L xs x2_10) >>> (4 &&& 31)) 9))).1) (f_X5_count Gn82 2) ((f_L_act Gn82 (f_L_cell L xs x2_10)).1) Gn89 ex2_10 hG90 hR _ _ _ hP hD hS (lv_sub hl [7, 8, 9, 6, 5, 4, 2, 1, 0] rfl)
        · rw [if_pos c167] at hR
          refine lv_iload_n hx hb dL_law_78 rfl (lv_at hl 6 rfl) ?_
          refine lv_bipush (v := 15) hx hb dL_law_79 (by decide) ?_
          refine lv_iand hx hb dL_law_81 ?_
          refine lv_bipush (v := 10) hx hb dL_law_82 (by decide) ?_
          refine lv_icmp_lt (tgt := 101) hx hb dL_law_84 (by decide) (fun c168 => ?_) (fun c168 => ?_)
          · rw [if_pos c168] at hR
            exact hJ_101 x2_10 (f_L_cell L xs x2_10) (f_L_digest G_10) (((f_L_cell L xs x2_10) >>> (6 &&& 31)) &&& 3) ((f_X5_outputIn G_10 (((f_L_cell L xs x2_10) >>> (6 &&& 31)) &&& 3) ((1 : Int32) + (f_L_low ((f_L_cell L xs x2_10) >>> (4 &&& 31)) 9))).1) (f_X5_count Gn82 2) ((f_L_act Gn82 (f_L_cell L xs x2_10)).1) Gn89 ex2_10 hG90 hR _ _ _ hP hD hS (lv_sub hl [7, 8, 9, 6, 5, 4, 2, 1, 0] rfl)
          · rw [if_neg c168] at hR
            exact hJ_87 x2_10 (f_L_cell L xs x2_10) (f_L_digest G_10) (((f_L_cell L xs x2_10) >>> (6 &&& 31)) &&& 3) ((f_X5_outputIn G_10 (((f_L_cell L xs x2_10) >>> (6 &&& 31)) &&& 3) ((1 : Int32) + (f_L_low ((f_L_cell L xs x2_10) >>> (4 &&& 31)) 9))).1) (f_X5_count Gn82 2) ((f_L_act Gn82 (f_L_cell L xs x2_10)).1) Gn89 ex2_10 hG90 hR _ _ _ hP hD hS (lv_sub hl [7, 8, 9, 6, 5, 4, 2, 1, 0] rfl)
  exact hL_10 19 0 0 G0 (by decide +kernel) (by decide) (by decide) wfg_G0 hR _ _ _ hP hD hS (lv_sub hl [0, 1, 2] rfl)
