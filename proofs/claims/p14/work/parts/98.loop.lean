set_option maxHeartbeats 8000000 in
set_option maxRecDepth 100000 in
theorem law_loop {p : Program} {e : Env} {s : State} {m : MethodId} {below : List Frame} {meth : Method} {c : Code} (l : Launch) {b L : Nat} {xs : Nat → Int32} (C0 : lw_At p s m meth c b L xs) {dC : Nat → ClassId} {dI : Nat → Nat → Nat} {cI cC cS : ClassId} (hK : va_K (dC, dI) vwCl (tyL cI cC cS) s) (hN : ENV s) (hT : STA (fun q : Nat => s.heap.size ≤ q) s s.heap) (hL : L ≤ 2048) (a d : Nat → Nat) : ∀ (n i : Nat) (x3 : Int32) (G : GR) (R : SR), x3 = nI i → i ≤ 2048 → 2048 < i + 4 * n → INV i G R → ∀ (H : Heap) (locs : List Loc) (ls : Array Slot), va_P (dC, dI) vwCl (cDk a cI cC cS G ++ cMd d cI R) H → va_D (fun q : Nat => s.heap.size ≤ q) (cDk a cI cC cS G ++ cMd d cI R) → va_S (fun q : Nat => s.heap.size ≤ q) s.heap H locs → lv_has ls 4 [(0, .ref (b)), (1, .ref (a 0)), (2, .ref (d 0)), (3, .int x3)] → W p l e room_1 s m #[Value.ref b] below meth c H locs 100 4145 (lw_Z below #[Value.ref b] s) (F0 m 18 ls []) := by
  obtain ⟨hx, hb, hr, hml, hown, hts0, hX, hbl, hlocks, hgv⟩ := id C0
  have hbA : ¬ (fun q : Nat => s.heap.size ≤ q) b := Nat.not_le.mpr hbl
  intro n
  induction n with
  | zero =>
    intro i x3 G R e1 h1 h2
    exact absurd h2 (by omega)
  | succ n ih =>
    intro i x3 G R ex3 hin hn hV H locs ls hP hD hS hl
    refine lv_iload_n hx hb dL_law_18 rfl (lv_at hl 3 rfl) ?_
    refine lv_aload_n hx hb dL_law_19 rfl (lv_at hl 0 rfl) ?_
    refine va_slen hx hb hX hbl hbA hS dL_law_20 ?_
    refine lv_iconst (v := 4) hx hb dL_law_21 (by decide) ?_
    refine lv_isub hx hb dL_law_22 ?_
    refine lv_icmp_gt (tgt := 906) hx hb dL_law_23 (by decide) (fun k_1 => ?_) (fun k_1 => ?_)
    · refine lv_iconst (v := 1) hx hb dL_law_906 (by decide) ?_
      refine va_forget (fun q hq => hS.2.2 q hq) ?_
      refine W.widen (k := 600000) (n := 7302250) (Nat.le_of_ble_eq_true rfl) (Nat.le_of_ble_eq_true rfl) ?_
      exact lw_ret hx hb hr hlocks dL_law_907
    · have hi : i + 4 ≤ L := sc_go ex3 hin hL k_1
      obtain ⟨hG, hI, hs, hv, hg⟩ := inv_wf hV (Nat.le_trans hi hL)
      refine lv_aload_n hx hb dL_law_26 rfl (lv_at hl 0 rfl) ?_
      refine lv_iload_n hx hb dL_law_27 rfl (lv_at hl 3 rfl) ?_
      refine va_sld hx hb hX hbl hbA hS (sc_in ex3 hi hL (k := 0) (by decide) (Int32.add_zero x3).symm) dL_law_28 ?_
      refine lv_bipush (v := 31) hx hb dL_law_29 (by decide) ?_
      refine lv_iand hx hb dL_law_31 ?_
      generalize hy : xs x3.toNatClampNeg &&& 31 = y
      have kb : ∀ (G2 : GR) (R2 : SR), INV (i + 4) G2 R2 → ∀ (H : Heap) (locs : List Loc) (ls : Array Slot), va_P (dC, dI) vwCl (cDk a cI cC cS G2 ++ cMd d cI R2) H → va_D (fun q : Nat => s.heap.size ≤ q) (cDk a cI cC cS G2 ++ cMd d cI R2) → va_S (fun q : Nat => s.heap.size ≤ q) s.heap H locs → lv_has ls 4 [(0, .ref (b)), (1, .ref (a 0)), (2, .ref (d 0)), (3, .int x3)] → W p l e room_1 s m #[Value.ref b] below meth c H locs 100 4145 (lw_Z below #[Value.ref b] s) (F0 m 900 ls []) := by
        intro G2 R2 hV2 H locs ls hP hD hS hl
        refine lv_iinc (v := x3 + 4) (lv' := [(3, .int (x3 + 4)), (0, .ref (b)), (1, .ref (a 0)), (2, .ref (d 0))]) hx hb dL_law_900 hl (k := 3) rfl rfl (by decide) rfl (fun ls hl => ?_)
        refine lv_goto (tgt := 18) hx hb dL_law_903 (by decide) ?_
        exact ih (i + 4) (x3 + 4) G2 R2 (by rw [ex3]; exact nI_add i 4) (by omega) (by omega) hV2 _ _ _ hP hD hS (lv_sub hl [1, 2, 3, 0] rfl)
      rcases Decidable.em (y = 0) with k0 | k0
      · refine lv_tableIn (tgt := 152) hx hb dL_law_32 (by rw [k0]; decide) (by rw [k0]; decide) (by rw [k0]; rfl) (by decide) ?_
        exact law_setChannel l C0 hK hN hT hL a d G R x3 i ex3 hi hG hI hs hv hg  _ (fun g0 g1 g2 H locs ls hP hD hS hl => kb _ _ (inv_setChannel hV (Nat.le_trans hi hL) (xs (x3 + 1).toNatClampNeg) (xs (x3 + 2).toNatClampNeg) (xs (x3 + 3).toNatClampNeg) g0 g1 g2) H locs ls hP hD hS hl) _ _ _ hP hD hS hl
      · rcases Decidable.em (y = 1) with k1 | k1
        · refine lv_tableIn (tgt := 195) hx hb dL_law_32 (by rw [k1]; decide) (by rw [k1]; decide) (by rw [k1]; rfl) (by decide) ?_
          exact law_setGroup l C0 hK hN hT hL a d G R x3 i ex3 hi hG hI hs hv hg  _ (fun g0 g1 g2 H locs ls hP hD hS hl => kb _ _ (inv_setGroup hV (Nat.le_trans hi hL) (xs (x3 + 1).toNatClampNeg) (xs (x3 + 2).toNatClampNeg) (xs (x3 + 3).toNatClampNeg) g0 g1 g2) H locs ls hP hD hS hl) _ _ _ hP hD hS hl
        · rcases Decidable.em (y = 2) with k2 | k2
          · refine lv_tableIn (tgt := 238) hx hb dL_law_32 (by rw [k2]; decide) (by rw [k2]; decide) (by rw [k2]; rfl) (by decide) ?_
            exact law_setSend l C0 hK hN hT hL a d G R x3 i ex3 hi hG hI hs hv hg  _ (fun g0 g1 g2 H locs ls hP hD hS hl => kb _ _ (inv_setSend hV (Nat.le_trans hi hL) (xs (x3 + 1).toNatClampNeg) (xs (x3 + 2).toNatClampNeg) (xs (x3 + 3).toNatClampNeg) g0 g1 g2) H locs ls hP hD hS hl) _ _ _ hP hD hS hl
          · rcases Decidable.em (y = 3) with k3 | k3
            · refine lv_tableIn (tgt := 281) hx hb dL_law_32 (by rw [k3]; decide) (by rw [k3]; decide) (by rw [k3]; rfl) (by decide) ?_
              exact law_setOwner l C0 hK hN hT hL a d G R x3 i ex3 hi hG hI hs hv hg  _ (fun g0 g1 g2 H locs ls hP hD hS hl => kb _ _ (inv_setOwner hV (Nat.le_trans hi hL) (xs (x3 + 1).toNatClampNeg) (xs (x3 + 2).toNatClampNeg) (xs (x3 + 3).toNatClampNeg) g0 g1 g2) H locs ls hP hD hS hl) _ _ _ hP hD hS hl
            · rcases Decidable.em (y = 4) with k4 | k4
              · refine lv_tableIn (tgt := 324) hx hb dL_law_32 (by rw [k4]; decide) (by rw [k4]; decide) (by rw [k4]; rfl) (by decide) ?_
                exact law_setReturn l C0 hK hN hT hL a d G R x3 i ex3 hi hG hI hs hv hg  _ (fun g0 g1 g2 H locs ls hP hD hS hl => kb _ _ (inv_setReturn hV (Nat.le_trans hi hL) (xs (x3 + 1).toNatClampNeg) (xs (x3 + 2).toNatClampNeg) g0 g1 g2) H locs ls hP hD hS hl) _ _ _ hP hD hS hl
              · rcases Decidable.em (y = 5) with k5 | k5
                · refine lv_tableIn (tgt := 357) hx hb dL_law_32 (by rw [k5]; decide) (by rw [k5]; decide) (by rw [k5]; rfl) (by decide) ?_
                  exact law_store l C0 hK hN hT hL a d G R x3 i ex3 hi hG hI hs hv hg  _ (fun g0 g1 g2 H locs ls hP hD hS hl => kb _ _ (inv_store hV (Nat.le_trans hi hL) (xs (x3 + 1).toNatClampNeg) g0 g1 g2) H locs ls hP hD hS hl) _ _ _ hP hD hS hl
                · rcases Decidable.em (y = 6) with k6 | k6
                  · refine lv_tableIn (tgt := 380) hx hb dL_law_32 (by rw [k6]; decide) (by rw [k6]; decide) (by rw [k6]; rfl) (by decide) ?_
                    exact law_recall l C0 hK hN hT hL a d G R x3 i ex3 hi hG hI hs hv hg  _ (fun g0 g1 g2 H locs ls hP hD hS hl => kb _ _ (inv_recall hV (Nat.le_trans hi hL) (xs (x3 + 1).toNatClampNeg) (xs (x3 + 2).toNatClampNeg) g0 g1 g2) H locs ls hP hD hS hl) _ _ _ hP hD hS hl
                  · rcases Decidable.em (y = 7) with k7 | k7
                    · refine lv_tableIn (tgt := 413) hx hb dL_law_32 (by rw [k7]; decide) (by rw [k7]; decide) (by rw [k7]; rfl) (by decide) ?_
                      exact law_run l C0 hK hN hT hL a d G R x3 i ex3 hi hG hI hs hv hg  _ (fun g0 g1 g2 H locs ls hP hD hS hl => kb _ _ (inv_run hV (Nat.le_trans hi hL) (xs (x3 + 1).toNatClampNeg) g0 g1 g2) H locs ls hP hD hS hl) _ _ _ hP hD hS hl
                    · rcases Decidable.em (y = 8) with k8 | k8
                      · refine lv_tableIn (tgt := 436) hx hb dL_law_32 (by rw [k8]; decide) (by rw [k8]; decide) (by rw [k8]; rfl) (by decide) ?_
                        exact law_reset l C0 hK hN hT hL a d G R x3 i ex3 hi hG hI hs hv hg  _ (fun g0 g1 g2 H locs ls hP hD hS hl => kb _ _ (inv_reset hV (Nat.le_trans hi hL) g0 g1 g2) H locs ls hP hD hS hl) _ _ _ hP hD hS hl
                      · rcases Decidable.em (y = 9) with k9 | k9
                        · refine lv_tableIn (tgt := 449) hx hb dL_law_32 (by rw [k9]; decide) (by rw [k9]; decide) (by rw [k9]; rfl) (by decide) ?_
                          exact law_undo l C0 hK hN hT hL a d G R x3 i ex3 hi hG hI hs hv hg  _ (fun g0 H locs ls hP hD hS hl => kb _ _ (inv_undo hV (Nat.le_trans hi hL) g0) H locs ls hP hD hS hl) _ _ _ hP hD hS hl
                        · rcases Decidable.em (y = 10) with k10 | k10
                          · refine lv_tableIn (tgt := 462) hx hb dL_law_32 (by rw [k10]; decide) (by rw [k10]; decide) (by rw [k10]; rfl) (by decide) ?_
                            exact law_append l C0 hK hN hT hL a d G R x3 i ex3 hi hG hI hs hv hg  _ (fun g0 H locs ls hP hD hS hl => kb _ _ (inv_append hV (Nat.le_trans hi hL) (xs (x3 + 1).toNatClampNeg) g0) H locs ls hP hD hS hl) _ _ _ hP hD hS hl
                          · rcases Decidable.em (y = 11) with k11 | k11
                            · refine lv_tableIn (tgt := 485) hx hb dL_law_32 (by rw [k11]; decide) (by rw [k11]; decide) (by rw [k11]; rfl) (by decide) ?_
                              exact law_clearText l C0 hK hN hT hL a d G R x3 i ex3 hi hG hI hs hv hg  _ (fun g0 H locs ls hP hD hS hl => kb _ _ (inv_clearText hV (Nat.le_trans hi hL) g0) H locs ls hP hD hS hl) _ _ _ hP hD hS hl
                            · rcases Decidable.em (y = 12) with k12 | k12
                              · refine lv_tableIn (tgt := 498) hx hb dL_law_32 (by rw [k12]; decide) (by rw [k12]; decide) (by rw [k12]; rfl) (by decide) ?_
                                exact law_load l C0 hK hN hT hL a d G R x3 i ex3 hi hG hI hs hv hg (cmp_load hV (Nat.le_trans hi hL) ) _ (fun g0 g1 g2 H locs ls hP hD hS hl => kb _ _ (inv_load hV (Nat.le_trans hi hL) g0 g1 g2) H locs ls hP hD hS hl) _ _ _ hP hD hS hl
                              · rcases Decidable.em (y = 13) with k13 | k13
                                · refine lv_tableIn (tgt := 511) hx hb dL_law_32 (by rw [k13]; decide) (by rw [k13]; decide) (by rw [k13]; rfl) (by decide) ?_
                                  exact law_count l C0 hK hN hT hL a d G R x3 i ex3 hi hG hI hs hv hg  _ (fun g0 g1 H locs ls hP hD hS hl => kb _ _ (inv_count hV (Nat.le_trans hi hL) (xs (x3 + 1).toNatClampNeg) g0 g1) H locs ls hP hD hS hl) _ _ _ hP hD hS hl
                                · rcases Decidable.em (y = 14) with k14 | k14
                                  · refine lv_tableIn (tgt := 534) hx hb dL_law_32 (by rw [k14]; decide) (by rw [k14]; decide) (by rw [k14]; rfl) (by decide) ?_
                                    exact law_channel l C0 hK hN hT hL a d G R x3 i ex3 hi hG hI hs hv hg  _ (fun g0 g1 H locs ls hP hD hS hl => kb _ _ (inv_channel hV (Nat.le_trans hi hL) (xs (x3 + 1).toNatClampNeg) (xs (x3 + 2).toNatClampNeg) g0 g1) H locs ls hP hD hS hl) _ _ _ hP hD hS hl
                                  · rcases Decidable.em (y = 15) with k15 | k15
                                    · refine lv_tableIn (tgt := 567) hx hb dL_law_32 (by rw [k15]; decide) (by rw [k15]; decide) (by rw [k15]; rfl) (by decide) ?_
                                      exact law_group l C0 hK hN hT hL a d G R x3 i ex3 hi hG hI hs hv hg  _ (fun g0 g1 H locs ls hP hD hS hl => kb _ _ (inv_group hV (Nat.le_trans hi hL) (xs (x3 + 1).toNatClampNeg) (xs (x3 + 2).toNatClampNeg) g0 g1) H locs ls hP hD hS hl) _ _ _ hP hD hS hl
                                    · rcases Decidable.em (y = 16) with k16 | k16
                                      · refine lv_tableIn (tgt := 600) hx hb dL_law_32 (by rw [k16]; decide) (by rw [k16]; decide) (by rw [k16]; rfl) (by decide) ?_
                                        exact law_feed l C0 hK hN hT hL a d G R x3 i ex3 hi hG hI hs hv hg  _ (fun g0 g1 H locs ls hP hD hS hl => kb _ _ (inv_feed hV (Nat.le_trans hi hL) (xs (x3 + 1).toNatClampNeg) (xs (x3 + 2).toNatClampNeg) g0 g1) H locs ls hP hD hS hl) _ _ _ hP hD hS hl
                                      · rcases Decidable.em (y = 17) with k17 | k17
                                        · refine lv_tableIn (tgt := 633) hx hb dL_law_32 (by rw [k17]; decide) (by rw [k17]; decide) (by rw [k17]; rfl) (by decide) ?_
                                          exact law_send l C0 hK hN hT hL a d G R x3 i ex3 hi hG hI hs hv hg  _ (fun g0 g1 H locs ls hP hD hS hl => kb _ _ (inv_send hV (Nat.le_trans hi hL) (xs (x3 + 1).toNatClampNeg) (xs (x3 + 2).toNatClampNeg) (xs (x3 + 3).toNatClampNeg) g0 g1) H locs ls hP hD hS hl) _ _ _ hP hD hS hl
                                        · rcases Decidable.em (y = 18) with k18 | k18
                                          · refine lv_tableIn (tgt := 676) hx hb dL_law_32 (by rw [k18]; decide) (by rw [k18]; decide) (by rw [k18]; rfl) (by decide) ?_
                                            exact law_scene l C0 hK hN hT hL a d G R x3 i ex3 hi hG hI hs hv hg  _ (fun g0 g1 H locs ls hP hD hS hl => kb _ _ (inv_scene hV (Nat.le_trans hi hL) (xs (x3 + 1).toNatClampNeg) (xs (x3 + 2).toNatClampNeg) g0 g1) H locs ls hP hD hS hl) _ _ _ hP hD hS hl
                                          · rcases Decidable.em (y = 19) with k19 | k19
                                            · refine lv_tableIn (tgt := 709) hx hb dL_law_32 (by rw [k19]; decide) (by rw [k19]; decide) (by rw [k19]; rfl) (by decide) ?_
                                              exact law_why l C0 hK hN hT hL a d G R x3 i ex3 hi hG hI hs hv hg  _ (fun g0 g1 H locs ls hP hD hS hl => kb _ _ (inv_why hV (Nat.le_trans hi hL) (xs (x3 + 1).toNatClampNeg) g0 g1) H locs ls hP hD hS hl) _ _ _ hP hD hS hl
                                            · rcases Decidable.em (y = 20) with k20 | k20
                                              · refine lv_tableIn (tgt := 732) hx hb dL_law_32 (by rw [k20]; decide) (by rw [k20]; decide) (by rw [k20]; rfl) (by decide) ?_
                                                exact law_path l C0 hK hN hT hL a d G R x3 i ex3 hi hG hI hs hv hg  _ (fun g0 g1 g2 g3 g4 H locs ls hP hD hS hl => kb _ _ (inv_path hV (Nat.le_trans hi hL) (xs (x3 + 1).toNatClampNeg) (xs (x3 + 2).toNatClampNeg) (xs (x3 + 3).toNatClampNeg) g0 g1 g2 g3 g4) H locs ls hP hD hS hl) _ _ _ hP hD hS hl
                                              · rcases Decidable.em (y = 21) with k21 | k21
                                                · refine lv_tableIn (tgt := 775) hx hb dL_law_32 (by rw [k21]; decide) (by rw [k21]; decide) (by rw [k21]; rfl) (by decide) ?_
                                                  exact law_loudest l C0 hK hN hT hL a d G R x3 i ex3 hi hG hI hs hv hg  _ (fun g0 g1 g2 g3 g4 H locs ls hP hD hS hl => kb _ _ (inv_loudest hV (Nat.le_trans hi hL) (xs (x3 + 1).toNatClampNeg) (xs (x3 + 2).toNatClampNeg) g0 g1 g2 g3 g4) H locs ls hP hD hS hl) _ _ _ hP hD hS hl
                                                · rcases Decidable.em (y = 22) with k22 | k22
                                                  · refine lv_tableIn (tgt := 808) hx hb dL_law_32 (by rw [k22]; decide) (by rw [k22]; decide) (by rw [k22]; rfl) (by decide) ?_
                                                    exact law_loops l C0 hK hN hT hL a d G R x3 i ex3 hi hG hI hs hv hg  _ (fun g0 g1 g2 g3 g4 H locs ls hP hD hS hl => kb _ _ (inv_loops hV (Nat.le_trans hi hL) g0 g1 g2 g3 g4) H locs ls hP hD hS hl) _ _ _ hP hD hS hl
                                                  · rcases Decidable.em (y = 23) with k23 | k23
                                                    · refine lv_tableIn (tgt := 821) hx hb dL_law_32 (by rw [k23]; decide) (by rw [k23]; decide) (by rw [k23]; rfl) (by decide) ?_
                                                      exact law_hearers l C0 hK hN hT hL a d G R x3 i ex3 hi hG hI hs hv hg  _ (fun g0 g1 g2 g3 g4 H locs ls hP hD hS hl => kb _ _ (inv_hearers hV (Nat.le_trans hi hL) (xs (x3 + 1).toNatClampNeg) g0 g1 g2 g3 g4) H locs ls hP hD hS hl) _ _ _ hP hD hS hl
                                                    · rcases Decidable.em (y = 24) with k24 | k24
                                                      · refine lv_tableIn (tgt := 844) hx hb dL_law_32 (by rw [k24]; decide) (by rw [k24]; decide) (by rw [k24]; rfl) (by decide) ?_
                                                        exact law_outputIn l C0 hK hN hT hL a d G R x3 i ex3 hi hG hI hs hv hg  _ (fun g0 H locs ls hP hD hS hl => kb _ _ (inv_outputIn hV (Nat.le_trans hi hL) (xs (x3 + 1).toNatClampNeg) (xs (x3 + 2).toNatClampNeg) g0) H locs ls hP hD hS hl) _ _ _ hP hD hS hl
                                                      · rcases Decidable.em (y = 25) with k25 | k25
                                                        · refine lv_tableIn (tgt := 877) hx hb dL_law_32 (by rw [k25]; decide) (by rw [k25]; decide) (by rw [k25]; rfl) (by decide) ?_
                                                          exact law_cut l C0 hK hN hT hL a d G R x3 i ex3 hi hG hI hs hv hg  _ (fun g0 g1 g2 g3 g4 H locs ls hP hD hS hl => kb _ _ (inv_cut hV (Nat.le_trans hi hL) (xs (x3 + 1).toNatClampNeg) g0 g1 g2 g3 g4) H locs ls hP hD hS hl) _ _ _ hP hD hS hl
                                                        · have tz0 : ¬ y.toInt = 0 := fun h => k0 (Int32.toInt_inj.mp (h.trans (by decide)))
                                                          have tz1 : ¬ y.toInt = 1 := fun h => k1 (Int32.toInt_inj.mp (h.trans (by decide)))
                                                          have tz2 : ¬ y.toInt = 2 := fun h => k2 (Int32.toInt_inj.mp (h.trans (by decide)))
                                                          have tz3 : ¬ y.toInt = 3 := fun h => k3 (Int32.toInt_inj.mp (h.trans (by decide)))
                                                          have tz4 : ¬ y.toInt = 4 := fun h => k4 (Int32.toInt_inj.mp (h.trans (by decide)))
                                                          have tz5 : ¬ y.toInt = 5 := fun h => k5 (Int32.toInt_inj.mp (h.trans (by decide)))
                                                          have tz6 : ¬ y.toInt = 6 := fun h => k6 (Int32.toInt_inj.mp (h.trans (by decide)))
                                                          have tz7 : ¬ y.toInt = 7 := fun h => k7 (Int32.toInt_inj.mp (h.trans (by decide)))
                                                          have tz8 : ¬ y.toInt = 8 := fun h => k8 (Int32.toInt_inj.mp (h.trans (by decide)))
                                                          have tz9 : ¬ y.toInt = 9 := fun h => k9 (Int32.toInt_inj.mp (h.trans (by decide)))
                                                          have tz10 : ¬ y.toInt = 10 := fun h => k10 (Int32.toInt_inj.mp (h.trans (by decide)))
                                                          have tz11 : ¬ y.toInt = 11 := fun h => k11 (Int32.toInt_inj.mp (h.trans (by decide)))
                                                          have tz12 : ¬ y.toInt = 12 := fun h => k12 (Int32.toInt_inj.mp (h.trans (by decide)))
                                                          have tz13 : ¬ y.toInt = 13 := fun h => k13 (Int32.toInt_inj.mp (h.trans (by decide)))
                                                          have tz14 : ¬ y.toInt = 14 := fun h => k14 (Int32.toInt_inj.mp (h.trans (by decide)))
                                                          have tz15 : ¬ y.toInt = 15 := fun h => k15 (Int32.toInt_inj.mp (h.trans (by decide)))
                                                          have tz16 : ¬ y.toInt = 16 := fun h => k16 (Int32.toInt_inj.mp (h.trans (by decide)))
                                                          have tz17 : ¬ y.toInt = 17 := fun h => k17 (Int32.toInt_inj.mp (h.trans (by decide)))
                                                          have tz18 : ¬ y.toInt = 18 := fun h => k18 (Int32.toInt_inj.mp (h.trans (by decide)))
                                                          have tz19 : ¬ y.toInt = 19 := fun h => k19 (Int32.toInt_inj.mp (h.trans (by decide)))
                                                          have tz20 : ¬ y.toInt = 20 := fun h => k20 (Int32.toInt_inj.mp (h.trans (by decide)))
                                                          have tz21 : ¬ y.toInt = 21 := fun h => k21 (Int32.toInt_inj.mp (h.trans (by decide)))
                                                          have tz22 : ¬ y.toInt = 22 := fun h => k22 (Int32.toInt_inj.mp (h.trans (by decide)))
                                                          have tz23 : ¬ y.toInt = 23 := fun h => k23 (Int32.toInt_inj.mp (h.trans (by decide)))
                                                          have tz24 : ¬ y.toInt = 24 := fun h => k24 (Int32.toInt_inj.mp (h.trans (by decide)))
                                                          have tz25 : ¬ y.toInt = 25 := fun h => k25 (Int32.toInt_inj.mp (h.trans (by decide)))
                                                          refine lv_tableOut (tgt := 900) hx hb dL_law_32 (by omega) (by decide) ?_
                                                          exact kb G R (inv_none hV) _ _ _ hP hD hS hl
set_option maxHeartbeats 8000000 in
set_option maxRecDepth 100000 in
theorem whole_start {p : Program} {e : Env} {s : State} {m : MethodId} {below : List Frame} {meth : Method} {c : Code} (l : Launch) (hflags : l.flags = flags0) {b L : Nat} {xs : Nat → Int32} (hL : L ≤ 2048) (C0 : lw_At p s m meth c b L xs) : W p l e room_1 s m #[Value.ref b] below meth c s.heap [] 0 0 (lw_Z below #[Value.ref b] s) (entryFrame m ([Value.ref b] : List Value).toArray 4) := by
  obtain ⟨hx, hb, hr, hml, hown, hts0, hX, hbl, hlocks, hgv⟩ := id C0
  have hown : s.vm.findClass RL = some m.cls := hown
  have hts : ∀ w ∈ wsL_law, w.before #[Value.ref b] s = true := fun w h => hts0 w (wsL_law_in w h)
  have hA : ∀ q : Nat, s.heap.size ≤ q → (fun q : Nat => s.heap.size ≤ q) q := fun _ h => h
  have hbA : ¬ (fun q : Nat => s.heap.size ≤ q) b := Nat.not_le.mpr hbl
  have hZ : ∀ q : Nat, q < s.heap.size → ¬ (fun q : Nat => s.heap.size ≤ q) q := fun q h => Nat.not_le.mpr h
  obtain ⟨c0, iS0, hKn0⟩ := u_known (C := RX0) (T := TX0) (N := 5) (n := 5) hts0 inX0 (hts0 (.instantiable RX0 5) (by decide +kernel))
  obtain ⟨c1, iS1, hKn1⟩ := u_known (C := RX1) (T := TX1) (N := 3) (n := 3) hts0 inX1 (hts0 (.instantiable RX1 3) (by decide +kernel))
  obtain ⟨c2, iS2, hKn2⟩ := u_known (C := RX2) (T := TX2) (N := 3) (n := 3) hts0 inX2 (hts0 (.instantiable RX2 3) (by decide +kernel))
  obtain ⟨c3, iS3, hKn3⟩ := u_known (C := RX3) (T := TX3) (N := 4) (n := 4) hts0 inX3 (hts0 (.instantiable RX3 4) (by decide +kernel))
  obtain ⟨c4, iS4, hKn4⟩ := u_known (C := RX4) (T := TX4) (N := 18) (n := 18) hts0 inX4 (hts0 (.instantiable RX4 18) (by decide +kernel))
  obtain ⟨c5, iS5, hKn5⟩ := u_known (C := RX5) (T := TX5) (N := 5) (n := 5) hts0 inX5 (hts0 (.instantiable RX5 5) (by decide +kernel))
  obtain ⟨c6, iS6, hKn6⟩ := u_known (C := RX6) (T := TX6) (N := 15) (n := 15) hts0 inX6 (hts0 (.instantiable RX6 15) (by decide +kernel))
  obtain ⟨dC, dI, hKc⟩ : ∃ (dC : Nat → ClassId) (dI : Nat → Nat → Nat), ∀ (k : Nat) (q : vw_C), vwCl[k]? = some q → u_Kn s q.1 q.2.1 q.2.2 (dC k) (dI k) := by
    refine ⟨fun k => if k = 0 then c0 else if k = 1 then c1 else if k = 2 then c2 else if k = 3 then c3 else if k = 4 then c4 else if k = 5 then c5 else c6, fun k => if k = 0 then iS0 else if k = 1 then iS1 else if k = 2 then iS2 else if k = 3 then iS3 else if k = 4 then iS4 else if k = 5 then iS5 else iS6, ?_⟩
    intro k q hq
    match k, hq with
    | 0, hq => cases hq; exact hKn0
    | 1, hq => cases hq; exact hKn1
    | 2, hq => cases hq; exact hKn2
    | 3, hq => cases hq; exact hKn3
    | 4, hq => cases hq; exact hKn4
    | 5, hq => cases hq; exact hKn5
    | 6, hq => cases hq; exact hKn6
    | k + 7, hq => simp [vwCl] at hq
  obtain ⟨cI, kI, compI, f1, f2, f3⟩ := Cond.arrayClass_spec (hts0 (.arrayClass .int) (by decide +kernel))
  obtain ⟨cC, kC, compC, g1, g2, g3⟩ := Cond.arrayClass_spec (hts0 (.arrayClass .char) (by decide +kernel))
  have hO : va_AO RX4 s := va_AO.of (hts0 (.arrayOver (.object RX4)) (by decide +kernel))
  obtain ⟨compS, cS, kS, z1, z2, z3, z4, z5⟩ := Cond.arrayOver_spec hO
  have hK : va_K (dC, dI) vwCl (tyL cI cC cS) s := by
    refine ⟨hKc, fun k q hk => ?_⟩
    match k, hk with
    | 0, hk => cases hk; exact ⟨fun n z => ⟨fun k h => (by cases h), kI, f2, compI, f3⟩, f1⟩
    | 1, hk => cases hk; exact ⟨fun n z => ⟨fun k h => (by cases h), kC, g2, compC, g3⟩, g1⟩
    | 2, hk => cases hk; exact ⟨fun n z => ⟨fun k h => (by cases h), kS, z3, compS, z4⟩, kS, compS, z3, z4, z1, z5⟩
    | k + 3, hk => simp [tyL] at hk
  have hN : ENV s := by
    intro w hw
    have hin : ∀ w ∈ nestW, w ∈ lw_tbl := by decide +kernel
    rcases nestW_kind w hw with ⟨_, _, _, _, rfl⟩ | ⟨_, _, _, _, _, _, rfl⟩ <;> exact va_Nw.of rfl (hts0 _ (hin _ hw))
  have hgf := flat_of_before _ hgv
  have hel1 : ∀ j : Nat, j < 5 → (Term.elem (.static "FeedDesk" "CHANNEL_MOST" "[I") (.int (Int32.ofNat j))).eval #[Value.ref b] s none [] s = some (.int (chI j)) := by
    intro j hj
    rcases (show j = 0 ∨ j = 1 ∨ j = 2 ∨ j = 3 ∨ j = 4 by omega) with rfl | rfl | rfl | rfl | rfl
    · exact va_eqt (hgf (.eq (.elem (.static "FeedDesk" "CHANNEL_MOST" "[I") (.int 0)) (.int 1000)) (by decide +kernel))
    · exact va_eqt (hgf (.eq (.elem (.static "FeedDesk" "CHANNEL_MOST" "[I") (.int 1)) (.int 100)) (by decide +kernel))
    · exact va_eqt (hgf (.eq (.elem (.static "FeedDesk" "CHANNEL_MOST" "[I") (.int 2)) (.int 1)) (by decide +kernel))
    · exact va_eqt (hgf (.eq (.elem (.static "FeedDesk" "CHANNEL_MOST" "[I") (.int 3)) (.int 1)) (by decide +kernel))
    · exact va_eqt (hgf (.eq (.elem (.static "FeedDesk" "CHANNEL_MOST" "[I") (.int 4)) (.int 15)) (by decide +kernel))
  obtain ⟨t1, ht1, hT1⟩ := va_Tof (N := 5) (f := fun j => .int (chI j)) (A := (fun q : Nat => s.heap.size ≤ q)) (by decide) (hgf (.arrayOf (.static "FeedDesk" "CHANNEL_MOST" "[I") .int) (by decide +kernel)) (va_eqt (hgf (.eq (.length (.static "FeedDesk" "CHANNEL_MOST" "[I")) (.int 5)) (by decide +kernel))) hel1 hZ
  have hZ1 : va_Z RX5 "CHANNEL_MOST" "[I" (.ref t1) (fun q : Nat => s.heap.size ≤ q) s s.heap := va_Zof (hts0 (.laysStatic RX5 "CHANNEL_MOST" "[I") (by decide +kernel)) (hts0 (.initialized RX5) (by decide +kernel)) ht1 hZ
  have hel2 : ∀ j : Nat, j < 2 → (Term.elem (.static "FeedDesk" "GROUP_MOST" "[I") (.int (Int32.ofNat j))).eval #[Value.ref b] s none [] s = some (.int (grI j)) := by
    intro j hj
    rcases (show j = 0 ∨ j = 1 by omega) with rfl | rfl
    · exact va_eqt (hgf (.eq (.elem (.static "FeedDesk" "GROUP_MOST" "[I") (.int 0)) (.int 100)) (by decide +kernel))
    · exact va_eqt (hgf (.eq (.elem (.static "FeedDesk" "GROUP_MOST" "[I") (.int 1)) (.int 1)) (by decide +kernel))
  obtain ⟨t2, ht2, hT2⟩ := va_Tof (N := 2) (f := fun j => .int (grI j)) (A := (fun q : Nat => s.heap.size ≤ q)) (by decide) (hgf (.arrayOf (.static "FeedDesk" "GROUP_MOST" "[I") .int) (by decide +kernel)) (va_eqt (hgf (.eq (.length (.static "FeedDesk" "GROUP_MOST" "[I")) (.int 2)) (by decide +kernel))) hel2 hZ
  have hZ2 : va_Z RX5 "GROUP_MOST" "[I" (.ref t2) (fun q : Nat => s.heap.size ≤ q) s s.heap := va_Zof (hts0 (.laysStatic RX5 "GROUP_MOST" "[I") (by decide +kernel)) (hts0 (.initialized RX5) (by decide +kernel)) ht2 hZ
  have hels : ∀ i : Nat, i < 1 → ∀ j : Nat, j < ([5] : List Nat).getD i 0 → (Cond.eq (.elem (.field (.string "FeedDesk$Patch" 59) "java/lang/String" "value" "[B") (.int (Int32.ofNat j))) (.int ((([[105, 102, 109, 115, 103]] : List (List Int32)).getD i []).getD j 0))).before #[Value.ref b] s = true := by
    intro i hi j hj
    rcases (show i = 0 by omega) with rfl
    have hj : j < 5 := hj
    rcases (show j = 0 ∨ j = 1 ∨ j = 2 ∨ j = 3 ∨ j = 4 by omega) with rfl | rfl | rfl | rfl | rfl
    · exact (hgf (.eq (.elem (.field (.string "FeedDesk$Patch" 59) "java/lang/String" "value" "[B") (.int 0)) (.int 105)) (by decide +kernel))
    · exact (hgf (.eq (.elem (.field (.string "FeedDesk$Patch" 59) "java/lang/String" "value" "[B") (.int 1)) (.int 102)) (by decide +kernel))
    · exact (hgf (.eq (.elem (.field (.string "FeedDesk$Patch" 59) "java/lang/String" "value" "[B") (.int 2)) (.int 109)) (by decide +kernel))
    · exact (hgf (.eq (.elem (.field (.string "FeedDesk$Patch" 59) "java/lang/String" "value" "[B") (.int 3)) (.int 115)) (by decide +kernel))
    · exact (hgf (.eq (.elem (.field (.string "FeedDesk$Patch" 59) "java/lang/String" "value" "[B") (.int 4)) (.int 103)) (by decide +kernel))
  obtain ⟨adK, adV, hSt, hSe⟩ := vk_Sof (args := #[Value.ref b]) (s := s) (N := 1) (tm := fun _ => (.string "FeedDesk$Patch" 59)) (len := [5]) (byt := [[105, 102, 109, 115, 103]]) (A := (fun q : Nat => s.heap.size ≤ q)) (fun i hi => by rcases (show i = 0 by omega) with rfl; decide) (fun i hi => by rcases (show i = 0 by omega) with rfl; exact (hgf (.exactly (.string "FeedDesk$Patch" 59) "java/lang/String") (by decide +kernel))) (fun i hi => by rcases (show i = 0 by omega) with rfl; exact (hgf (.eq (.field (.string "FeedDesk$Patch" 59) "java/lang/String" "coder" "B") (.int 0)) (by decide +kernel))) (fun i hi => by rcases (show i = 0 by omega) with rfl; exact (hgf (.arrayOf (.field (.string "FeedDesk$Patch" 59) "java/lang/String" "value" "[B") .byte) (by decide +kernel))) (fun i hi => by rcases (show i = 0 by omega) with rfl; exact (hgf (.eq (.length (.field (.string "FeedDesk$Patch" 59) "java/lang/String" "value" "[B")) (.int 5)) (by decide +kernel))) hels (fun i j hi hj h => absurd (by omega) h) hZ
  obtain ⟨y1, y2, y3, y4⟩ := hSt.1 0 (by decide)
  have hSR : vk_R RX2 59 "ifmsg" (adK 0) s := vk_R.of (hts0 (.stringRef RX2 59 "ifmsg") (by decide +kernel)) (hSe 0 (by decide))
  have hZs : va_Z "java/lang/String" "COMPACT_STRINGS" "Z" (.int 1) (fun q : Nat => s.heap.size ≤ q) s s.heap := va_Zof (hts0 (.laysStatic "java/lang/String" "COMPACT_STRINGS" "Z") (by decide +kernel)) (hts0 (.initialized "java/lang/String") (by decide +kernel)) (va_eqi (hgf (.eq (.static "java/lang/String" "COMPACT_STRINGS" "Z") (.int 1)) (by decide +kernel))) hZ
  have y5 : va_T .byte (adV 0) 5 (fun j => .int (ifI j)) (fun q : Nat => s.heap.size ≤ q) s s.heap := by
    obtain ⟨cell, w1, w2, w3, w4, w5, w6, w7⟩ := y4
    refine ⟨cell, w1, w2, w3, w4, w5, fun j hj => ?_, w7⟩
    rw [w6 j hj]
    rcases (show j = 0 ∨ j = 1 ∨ j = 2 ∨ j = 3 ∨ j = 4 by omega) with rfl | rfl | rfl | rfl | rfl <;> rfl
  have hT : STA (fun q : Nat => s.heap.size ≤ q) s s.heap := ⟨⟨t1, hZ1, hT1⟩, ⟨t2, hZ2, hT2⟩, ⟨adK 0, adV 0, ⟨y1, y2, y3, y5, hZs⟩, hSR⟩⟩
  have hS : va_S (fun q : Nat => s.heap.size ≤ q) s.heap s.heap [] := va_S.rf
  have hP : va_P (dC, dI) vwCl [] s.heap := va_P_nil
  have hD : va_D (fun q : Nat => s.heap.size ≤ q) [] := ⟨fun i j p q h => by simp at h, fun k q h => by simp at h⟩
  have hl := lv_entry ([.ref b]) (n := 4) (Nat.le_of_ble_eq_true rfl)
  rw [lg_entry_eq]
  generalize (lg_sl ([.ref b]) ++ List.replicate (4 - (lg_sl ([.ref b])).length) Slot.unset).toArray = ls at hl ⊢
  have hl : lv_has ls 4 [(0, .ref b)] := hl
  refine va_new (ci := 5) (fs := [.null, .null, .null, .null, .null]) (C := RX5) (T := TX5) (N := 5) hx hb hts0 inX5 tyX5 tyX5_ok hown (hts (.classLink RL 7 RX5) (List.mem_of_getElem? (i := 0) rfl)) (hts (.instantiable RX5 5) (List.mem_of_getElem? (i := 1) rfl)) (hts (.initialized RX5) (List.mem_of_getElem? (i := 2) rfl)) hK hP hD hS hA rfl (fun j hj => by rcases (show j = 0 ∨ j = 1 ∨ j = 2 ∨ j = 3 ∨ j = 4 by omega) with rfl | rfl | rfl | rfl | rfl <;> rfl) (Nat.le_of_ble_eq_true rfl) (Nat.le_of_ble_eq_true rfl) dL_law_0 (fun q1 H1 hP hD hS => ?_)
  have hP : va_P (dC, dI) vwCl ([(q1, .inr (5, [.null, .null, .null, .null, .null]))]) H1 := hP
  have hD : va_D (fun q : Nat => s.heap.size ≤ q) ([(q1, .inr (5, [.null, .null, .null, .null, .null]))]) := hD
  refine W.widen (k := 1) (n := 5) (Nat.le_of_ble_eq_true rfl) (Nat.le_of_ble_eq_true rfl) ?_
  refine lv_dup hx hb dL_law_3 rfl ?_
  have hPc : va_P (dC, dI) vwCl [(q1, .inr (5, [.null, .null, .null, .null, .null]))] H1 := hP.sub [0] rfl
  have hDc : va_D (fun q : Nat => s.heap.size ≤ q) [(q1, .inr (5, [.null, .null, .null, .null, .null]))] := hD.sub [0] (by decide) rfl
  have hFc : ∀ q : Nat, va_A [(q1, .inr (5, [.null, .null, .null, .null, .null]))] H1.size q → (fun q : Nat => s.heap.size ≤ q) q := va_free hD hS hA [0] rfl
  refine va_callv (va_runI (As := []) (rest := [.ref q1]) ⟨hx, hb, hml, hown, hts⟩ (c_X5_init l dC dI cI cC cS q1 H1.size) (cwI 0 hts gL_law_X5_init rfl rfl rfl (hts (.initialized RX5) (List.mem_of_getElem? (i := 2) rfl)) (hts (.methodLink RL 9 yX5_init) (List.mem_of_getElem? (i := 6) rfl)) (hts (.instanceMethod yX5_init) (List.mem_of_getElem? (i := 7) rfl)) rfl (by decide +kernel) ⟨(Nat.le_of_ble_eq_true rfl), (Nat.le_of_ble_eq_true rfl)⟩) (pN hK hPc hDc hN hO) rfl rfl hl.1 rfl (lv_room (Nat.le_of_ble_eq_true rfl)) dL_law_4 ⟨(Nat.le_of_ble_eq_true rfl), (Nat.le_of_ble_eq_true rfl)⟩) hS (fun q _ h => hFc q h) hFc (fun a t_a H2 locs ht hvm hw hB hz1 hk1 hS => ?_)
  obtain ⟨hP1, hD1⟩ := hB
  rw [ht] at hP1
  subst hw
  obtain ⟨hP, hD⟩ := va_join (wc := [((a 0), .inr (5, [.null, .null, .null, .null, .null]))]) (wr := []) (w1 := cDk a cI cC cS G0) hP hD [0] [] rfl rfl (by decide) (by decide) hk1 hFc hP1 hD1
  have hP : va_P (dC, dI) vwCl ([] ++ cDk a cI cC cS G0) H2 := hP
  have hD : va_D (fun q : Nat => s.heap.size ≤ q) ([] ++ cDk a cI cC cS G0) := hD
  refine W.widen (k := 93) (n := 1959) (Nat.le_of_ble_eq_true rfl) (Nat.le_of_ble_eq_true rfl) ?_
  refine lv_astore_n (lv' := [(1, .ref (a 0)), (0, .ref b)]) hx hb dL_law_7 rfl hl (by decide) rfl (fun ls hl => ?_)
  refine va_new (ci := 6) (fs := [.int 0, .null, .null, .null, .int 0, .null, .int 0, .int 0, .int 0, .null, .null, .int 0, .int 0, .int 0, .int 0]) (C := RX6) (T := TX6) (N := 15) hx hb hts0 inX6 tyX6 tyX6_ok hown (hts (.classLink RL 10 RX6) (List.mem_of_getElem? (i := 3) rfl)) (hts (.instantiable RX6 15) (List.mem_of_getElem? (i := 4) rfl)) (hts (.initialized RX6) (List.mem_of_getElem? (i := 5) rfl)) hK hP hD hS hA rfl (fun j hj => by rcases (show j = 0 ∨ j = 1 ∨ j = 2 ∨ j = 3 ∨ j = 4 ∨ j = 5 ∨ j = 6 ∨ j = 7 ∨ j = 8 ∨ j = 9 ∨ j = 10 ∨ j = 11 ∨ j = 12 ∨ j = 13 ∨ j = 14 by omega) with rfl | rfl | rfl | rfl | rfl | rfl | rfl | rfl | rfl | rfl | rfl | rfl | rfl | rfl | rfl <;> rfl) (Nat.le_of_ble_eq_true rfl) (Nat.le_of_ble_eq_true rfl) dL_law_8 (fun q2 H3 hP hD hS => ?_)
  have hP : va_P (dC, dI) vwCl (cDk a cI cC cS G0 ++ [(q2, .inr (6, [.int 0, .null, .null, .null, .int 0, .null, .int 0, .int 0, .int 0, .null, .null, .int 0, .int 0, .int 0, .int 0]))]) H3 := hP
  have hD : va_D (fun q : Nat => s.heap.size ≤ q) (cDk a cI cC cS G0 ++ [(q2, .inr (6, [.int 0, .null, .null, .null, .int 0, .null, .int 0, .int 0, .int 0, .null, .null, .int 0, .int 0, .int 0, .int 0]))]) := hD
  refine W.widen (k := 94) (n := 1974) (Nat.le_of_ble_eq_true rfl) (Nat.le_of_ble_eq_true rfl) ?_
  refine lv_dup hx hb dL_law_11 rfl ?_
  have hPc : va_P (dC, dI) vwCl [(q2, .inr (6, [.int 0, .null, .null, .null, .int 0, .null, .int 0, .int 0, .int 0, .null, .null, .int 0, .int 0, .int 0, .int 0]))] H3 := hP.sub [93] rfl
  have hDc : va_D (fun q : Nat => s.heap.size ≤ q) [(q2, .inr (6, [.int 0, .null, .null, .null, .int 0, .null, .int 0, .int 0, .int 0, .null, .null, .int 0, .int 0, .int 0, .int 0]))] := hD.sub [93] (by decide) rfl
  have hFc : ∀ q : Nat, va_A [(q2, .inr (6, [.int 0, .null, .null, .null, .int 0, .null, .int 0, .int 0, .int 0, .null, .null, .int 0, .int 0, .int 0, .int 0]))] H3.size q → (fun q : Nat => s.heap.size ≤ q) q := va_free hD hS hA [93] rfl
  refine va_callv (va_runI (As := []) (rest := [.ref q2]) ⟨hx, hb, hml, hown, hts⟩ (c_X6_init l dC dI cI cC cS q2 H3.size) (cwI 0 hts gL_law_X6_init rfl rfl rfl (hts (.initialized RX6) (List.mem_of_getElem? (i := 5) rfl)) (hts (.methodLink RL 12 yX6_init) (List.mem_of_getElem? (i := 71) rfl)) (hts (.instanceMethod yX6_init) (List.mem_of_getElem? (i := 72) rfl)) rfl (by decide +kernel) ⟨(Nat.le_of_ble_eq_true rfl), (Nat.le_of_ble_eq_true rfl)⟩) (pN hK hPc hDc hN hO) rfl rfl hl.1 rfl (lv_room (Nat.le_of_ble_eq_true rfl)) dL_law_12 ⟨(Nat.le_of_ble_eq_true rfl), (Nat.le_of_ble_eq_true rfl)⟩) hS (fun q _ h => hFc q h) hFc (fun d t_d H4 locs ht hvm hw hB hz1 hk1 hS => ?_)
  obtain ⟨hP1, hD1⟩ := hB
  rw [ht] at hP1
  subst hw
  obtain ⟨hP, hD⟩ := va_join (wc := [((d 0), .inr (6, [.int 0, .null, .null, .null, .int 0, .null, .int 0, .int 0, .int 0, .null, .null, .int 0, .int 0, .int 0, .int 0]))]) (wr := cDk a cI cC cS G0) (w1 := cMd d cI R0) hP hD [93] [0, 1, 2, 3, 4, 5, 6, 7, 8, 9, 10, 11, 12, 13, 14, 15, 16, 17, 18, 19, 20, 21, 22, 23, 24, 25, 26, 27, 28, 29, 30, 31, 32, 33, 34, 35, 36, 37, 38, 39, 40, 41, 42, 43, 44, 45, 46, 47, 48, 49, 50, 51, 52, 53, 54, 55, 56, 57, 58, 59, 60, 61, 62, 63, 64, 65, 66, 67, 68, 69, 70, 71, 72, 73, 74, 75, 76, 77, 78, 79, 80, 81, 82, 83, 84, 85, 86, 87, 88, 89, 90, 91, 92] rfl rfl (by decide) (by decide) hk1 hFc hP1 hD1
  have hP : va_P (dC, dI) vwCl (cDk a cI cC cS G0 ++ cMd d cI R0) H4 := hP
  have hD : va_D (fun q : Nat => s.heap.size ≤ q) (cDk a cI cC cS G0 ++ cMd d cI R0) := hD
  refine W.widen (k := 100) (n := 4145) (Nat.le_of_ble_eq_true rfl) (Nat.le_of_ble_eq_true rfl) ?_
  refine lv_astore_n (lv' := [(2, .ref (d 0)), (1, .ref (a 0)), (0, .ref b)]) hx hb dL_law_15 rfl hl (by decide) rfl (fun ls hl => ?_)
  refine lv_iconst (v := 0) hx hb dL_law_16 (by decide) ?_
  refine lv_istore_n (lv' := [(3, .int 0), (2, .ref (d 0)), (1, .ref (a 0)), (0, .ref b)]) hx hb dL_law_17 rfl hl (by decide) rfl (fun ls hl => ?_)
  exact law_loop l C0 hK hN hT hL a d (512 + 1) 0 0 G0 R0 nI_0.symm (Nat.zero_le _) (by decide) inv_0 _ _ _ hP hD hS (lv_sub hl [3, 2, 1, 0] rfl)
