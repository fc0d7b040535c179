abbrev rm_X5_run : Room := { frames := 5, cells := 0, slots := 0, locals := 110 }
def f_X5_run (G : GR) (p1 : Int32) : Int32 × GR := (if (f_X5_isWithin p1 1 100) = 0 then ((-1), G) else (if (((G 0) 10 3) + p1) ≤ 10000 then sLet ((f_X1_keep G)) (fun Gn9 : GR => sLet (va_up Gn9 0 (f_X4_goOn (Gn9 0) p1)) (fun Gn14 : GR => ((Gn14 0) 10 4, Gn14))) else ((-3), G)))
set_option maxHeartbeats 4000000 in
set_option maxRecDepth 100000 in
theorem c_X5_run (l : Launch) (dC : Nat → ClassId) (dI : Nat → Nat → Nat) (cI cC cS : ClassId) (a : Nat → Nat) (G : GR) (sz : Nat) (p1 : Int32) (hG : WFG G) : Met l yX5_run wsX5_run rm_X5_run (PcG (dC, dI) (tyL cI cC cS) (cDk a cI cC cS G) sz [.ref (a 0), .int p1]) (va_Qi (fun (r : Int32) (u : GR) => (r, u) = f_X5_run G p1 ∧ (WFG u)) (fun u U => va_P (dC, dI) vwCl (cDk a cI cC cS u) U.heap ∧ va_D (va_A (cDk a cI cC cS G) sz) (cDk a cI cC cS u)) (va_A (cDk a cI cC cS G) sz)) 0 0 (va_A (cDk a cI cC cS G) sz) := by
  refine Met.ofW (cc := cX5_run) (maxL := 2) (ret := (some .int)) (by decide) rfl ?_
  intro p e s m args below meth c s₁ B hml hv
  obtain ⟨rfl, hsz, hP, hK, hD0, hN⟩ := hv
  have hx := B.exec
  have hb := B.bytes
  have hr := B.returns
  have hts := atoms_spec (ws := wsX5_run) B.pre
  have hown : s.vm.findClass RX5 = some m.cls := findClass_of_methodNamed B.named
  have hlocks := B.notSynchronized
  subst hsz
  have hD := hD0.self (sz := s.heap.size)
  have hA : ∀ q : Nat, s.heap.size ≤ q → (va_A (cDk a cI cC cS G) s.heap.size) q := fun q h => Or.inr h
  have hS : va_S (va_A (cDk a cI cC cS G) s.heap.size) s.heap s.heap [] := va_S.rf
  have hin5 : ∀ w ∈ wsX50, w ∈ wsX5_run := fun _ h => List.mem_cons_of_mem _ (List.mem_append_left _ (List.mem_append_left _ (List.mem_append_left _ (List.mem_append_right _ h))))
  have hin4 : ∀ w ∈ wsX40, w ∈ wsX5_run := fun _ h => List.mem_cons_of_mem _ (List.mem_append_left _ (List.mem_append_left _ (List.mem_append_right _ h)))
  have hl := lv_entry [.ref (a 0), .int p1] (n := 2) (Nat.le_of_ble_eq_true rfl)
  rw [lg_entry_eq]
  generalize (lg_sl [.ref (a 0), .int p1] ++ List.replicate (2 - (lg_sl [.ref (a 0), .int p1]).length) Slot.unset).toArray = ls at hl ⊢
  have hl : lv_has ls 2 [(0, .ref (a 0)), (1, .int p1)] := hl
  obtain ⟨R0, eR⟩ : ∃ z, z = f_X5_run G p1 := ⟨_, rfl⟩
  have hR := eR
  rw [f_X5_run] at hR
  refine lv_iload_n hx hb dX5_run_0 rfl (lv_at hl 1 rfl) ?_
  refine lv_iconst (v := 1) hx hb dX5_run_1 (by decide) ?_
  refine lv_bipush (v := 100) hx hb dX5_run_2 (by decide) ?_
  have hFc : ∀ q : Nat, va_A [] s.heap.size q → (va_A (cDk a cI cC cS G) s.heap.size) q := roF hS hA
  refine va_calli (va_runS (As := [.int p1, .int 1, .int 100]) (rest := []) ⟨hx, hb, hml, hown, hts⟩ (c_X5_isWithin l dC dI cI cC cS s.heap.size p1 1 100) (va_cwS 3 hts gX5_run_X5_isWithin rfl rfl rfl (by decide +kernel) ⟨Nat.le_of_ble_eq_true rfl, Nat.le_of_ble_eq_true rfl⟩) (pS hK (va_P_nil) (va_D_nil) hN) rfl rfl hl.1 rfl (lv_room (Nat.le_of_ble_eq_true rfl)) dX5_run_4 ⟨Nat.le_of_ble_eq_true rfl, Nat.le_of_ble_eq_true rfl⟩) hS (fun q _ h => hFc q h) hFc (fun r_1 u_1 t_1 H2 locs ht hvm hw hB hz1 hk1 hS => ?_)
  obtain ⟨hw, hre3⟩ := hw
  subst hw
  have hP := ro_keep hP hk1
  refine lv_if_ne (tgt := 12) hx hb dX5_run_7 (by decide) (fun c4 => ?_) (fun c4 => ?_)
  · rw [if_neg c4] at hR
    refine lv_aload_n hx hb dX5_run_12 rfl (lv_at hl 0 rfl) ?_
    refine va_get (D := (dC, dI)) (ci := 5) (v := .ref (a 1)) (C := RX5) (T := TX5) (N := 5) hx hb hts hin5 hown hK hP 0 rfl rfl 0 (by decide) (hts (.fieldLink RX5 12 "FeedDesk" "now" "LFeedDesk$State;") (List.mem_of_getElem? (i := 1) rfl)) (fun _ h9 => h9) rfl dX5_run_13 ?_
    refine va_getN (D := (dC, dI)) (ci := 4) (v := .int ((G 0) 10 3)) (C := RX4) (T := TX4) (N := 18) hx hb hts hin4 hown hK hP 1 rfl rfl 11 (by decide) (va_Nw.use rfl (hN.at 28 rfl)) (fun _ h9 => h9) rfl dX5_run_16 ?_
    refine lv_iload_n hx hb dX5_run_19 rfl (lv_at hl 1 rfl) ?_
    refine lv_iadd hx hb dX5_run_20 ?_
    refine lv_sipush (v := 10000) hx hb dX5_run_21 (by decide) ?_
    refine lv_icmp_le (tgt := 30) hx hb dX5_run_24 (by decide) (fun c5 => ?_) (fun c5 => ?_)
    · rw [if_pos c5] at hR
      refine lv_aload_n hx hb dX5_run_30 rfl (lv_at hl 0 rfl) ?_
      refine va_get (D := (dC, dI)) (ci := 5) (v := .ref (a 25)) (C := RX5) (T := TX5) (N := 5) hx hb hts hin5 hown hK hP 0 rfl rfl 2 (by decide) (hts (.fieldLink RX5 22 "FeedDesk" "history" "LFeedDesk$History;") (List.mem_of_getElem? (i := 2) rfl)) (fun _ h9 => h9) rfl dX5_run_31 ?_
      refine lv_aload_n hx hb dX5_run_34 rfl (lv_at hl 0 rfl) ?_
      refine va_get (D := (dC, dI)) (ci := 5) (v := .ref (a 1)) (C := RX5) (T := TX5) (N := 5) hx hb hts hin5 hown hK hP 0 rfl rfl 0 (by decide) (hts (.fieldLink RX5 12 "FeedDesk" "now" "LFeedDesk$State;") (List.mem_of_getElem? (i := 1) rfl)) (fun _ h9 => h9) rfl dX5_run_35 ?_
      have hPc : va_P (dC, dI) vwCl (cDk a cI cC cS G) H2 := hP.sub [0, 1, 2, 3, 4, 5, 6, 7, 8, 9, 10, 11, 12, 13, 14, 15, 16, 17, 18, 19, 20, 21, 22, 23, 24, 25, 26, 27, 28, 29, 30, 31, 32, 33, 34, 35, 36, 37, 38, 39, 40, 41, 42, 43, 44, 45, 46, 47, 48, 49, 50, 51, 52, 53, 54, 55, 56, 57, 58, 59, 60, 61, 62, 63, 64, 65, 66, 67, 68, 69, 70, 71, 72, 73, 74, 75, 76, 77, 78, 79, 80, 81, 82, 83, 84, 85, 86, 87, 88, 89, 90, 91, 92] rfl
      have hDc : va_D (va_A (cDk a cI cC cS G) s.heap.size) (cDk a cI cC cS G) := hD.sub [0, 1, 2, 3, 4, 5, 6, 7, 8, 9, 10, 11, 12, 13, 14, 15, 16, 17, 18, 19, 20, 21, 22, 23, 24, 25, 26, 27, 28, 29, 30, 31, 32, 33, 34, 35, 36, 37, 38, 39, 40, 41, 42, 43, 44, 45, 46, 47, 48, 49, 50, 51, 52, 53, 54, 55, 56, 57, 58, 59, 60, 61, 62, 63, 64, 65, 66, 67, 68, 69, 70, 71, 72, 73, 74, 75, 76, 77, 78, 79, 80, 81, 82, 83, 84, 85, 86, 87, 88, 89, 90, 91, 92] (by decide) rfl
      have hFc : ∀ q : Nat, va_A (cDk a cI cC cS G) H2.size q → (va_A (cDk a cI cC cS G) s.heap.size) q := va_free hD hS hA [0, 1, 2, 3, 4, 5, 6, 7, 8, 9, 10, 11, 12, 13, 14, 15, 16, 17, 18, 19, 20, 21, 22, 23, 24, 25, 26, 27, 28, 29, 30, 31, 32, 33, 34, 35, 36, 37, 38, 39, 40, 41, 42, 43, 44, 45, 46, 47, 48, 49, 50, 51, 52, 53, 54, 55, 56, 57, 58, 59, 60, 61, 62, 63, 64, 65, 66, 67, 68, 69, 70, 71, 72, 73, 74, 75, 76, 77, 78, 79, 80, 81, 82, 83, 84, 85, 86, 87, 88, 89, 90, 91, 92] rfl
      refine va_callv (va_runV (As := [.ref (a 1)]) (rest := []) ⟨hx, hb, hml, hown, hts⟩ (c_X1_keep l dC dI cI cC cS a G H2.size hG) (cwV 1 hts gX5_run_X1_keep rfl rfl rfl (by decide +kernel) ⟨Nat.le_of_ble_eq_true rfl, Nat.le_of_ble_eq_true rfl⟩) (pV (q0 := 25) hK hPc hDc hN rfl rfl) rfl rfl hl.1 rfl (lv_room (Nat.le_of_ble_eq_true rfl)) dX5_run_38 ⟨Nat.le_of_ble_eq_true rfl, Nat.le_of_ble_eq_true rfl⟩) hS (fun q _ h => hFc q h) hFc (fun u_6 t_6 H7 locs ht hvm hw hB hz1 hk1 hS => ?_)
      obtain ⟨hw, hens8⟩ := hw
      obtain ⟨hP1, hD1⟩ := hB
      rw [ht] at hP1
      subst hw
      obtain ⟨hP, hD⟩ := va_join (wc := cDk a cI cC cS G) (wr := []) (w1 := cDk a cI cC cS (f_X1_keep G)) hP hD [0, 1, 2, 3, 4, 5, 6, 7, 8, 9, 10, 11, 12, 13, 14, 15, 16, 17, 18, 19, 20, 21, 22, 23, 24, 25, 26, 27, 28, 29, 30, 31, 32, 33, 34, 35, 36, 37, 38, 39, 40, 41, 42, 43, 44, 45, 46, 47, 48, 49, 50, 51, 52, 53, 54, 55, 56, 57, 58, 59, 60, 61, 62, 63, 64, 65, 66, 67, 68, 69, 70, 71, 72, 73, 74, 75, 76, 77, 78, 79, 80, 81, 82, 83, 84, 85, 86, 87, 88, 89, 90, 91, 92] [] rfl rfl (by decide) (by decide) hk1 hFc hP1 hD1
      have hP : va_P (dC, dI) vwCl (cDk a cI cC cS (f_X1_keep G)) H7 := hP.sub [0, 1, 2, 3, 4, 5, 6, 7, 8, 9, 10, 11, 12, 13, 14, 15, 16, 17, 18, 19, 20, 21, 22, 23, 24, 25, 26, 27, 28, 29, 30, 31, 32, 33, 34, 35, 36, 37, 38, 39, 40, 41, 42, 43, 44, 45, 46, 47, 48, 49, 50, 51, 52, 53, 54, 55, 56, 57, 58, 59, 60, 61, 62, 63, 64, 65, 66, 67, 68, 69, 70, 71, 72, 73, 74, 75, 76, 77, 78, 79, 80, 81, 82, 83, 84, 85, 86, 87, 88, 89, 90, 91, 92] rfl
      have hD : va_D (va_A (cDk a cI cC cS G) s.heap.size) (cDk a cI cC cS (f_X1_keep G)) := hD.sub [0, 1, 2, 3, 4, 5, 6, 7, 8, 9, 10, 11, 12, 13, 14, 15, 16, 17, 18, 19, 20, 21, 22, 23, 24, 25, 26, 27, 28, 29, 30, 31, 32, 33, 34, 35, 36, 37, 38, 39, 40, 41, 42, 43, 44, 45, 46, 47, 48, 49, 50, 51, 52, 53, 54, 55, 56, 57, 58, 59, 60, 61, 62, 63, 64, 65, 66, 67, 68, 69, 70, 71, 72, 73, 74, 75, 76, 77, 78, 79, 80, 81, 82, 83, 84, 85, 86, 87, 88, 89, 90, 91, 92] (by decide) rfl
      obtain ⟨Gn9, eGn9⟩ : ∃ z : GR, z = (f_X1_keep G) := ⟨_, rfl⟩
      rw [sLet_eq, ← eGn9] at hR
      rw [← eGn9] at hP hD
      have hG10 : WFG Gn9 := by rw [eGn9]; exact hens8
      refine lv_aload_n hx hb dX5_run_41 rfl (lv_at hl 0 rfl) ?_
      refine va_get (D := (dC, dI)) (ci := 5) (v := .ref (a 1)) (C := RX5) (T := TX5) (N := 5) hx hb hts hin5 hown hK hP 0 rfl rfl 0 (by decide) (hts (.fieldLink RX5 12 "FeedDesk" "now" "LFeedDesk$State;") (List.mem_of_getElem? (i := 1) rfl)) (fun _ h9 => h9) rfl dX5_run_42 ?_
      refine lv_iload_n hx hb dX5_run_45 rfl (lv_at hl 1 rfl) ?_
      have hPc : va_P (dC, dI) vwCl (cSt (fun j => a (1 + j)) cI (Gn9 0)) H7 := hP.sub [1, 2, 3, 4, 5, 6, 7, 8, 9, 10, 11, 12] rfl
      have hDc : va_D (va_A (cDk a cI cC cS G) s.heap.size) (cSt (fun j => a (1 + j)) cI (Gn9 0)) := hD.sub [1, 2, 3, 4, 5, 6, 7, 8, 9, 10, 11, 12] (by decide) rfl
      have hFc : ∀ q : Nat, va_A (cSt (fun j => a (1 + j)) cI (Gn9 0)) H7.size q → (va_A (cDk a cI cC cS G) s.heap.size) q := va_free hD hS hA [1, 2, 3, 4, 5, 6, 7, 8, 9, 10, 11, 12] rfl
      refine va_callv (va_runV (As := [.int p1]) (rest := []) ⟨hx, hb, hml, hown, hts⟩ (c_X4_goOn l dC dI cI cC cS (fun j => a (1 + j)) (Gn9 0) H7.size p1 (within_vp (n := 100) c4 (by decide)) (hG10.1 0 (by decide))) (cwV 1 hts gX5_run_X4_goOn rfl rfl rfl (by decide +kernel) ⟨Nat.le_of_ble_eq_true rfl, Nat.le_of_ble_eq_true rfl⟩) (pV (q0 := 0) hK hPc hDc hN rfl rfl) rfl rfl hl.1 rfl (lv_room (Nat.le_of_ble_eq_true rfl)) dX5_run_46 ⟨Nat.le_of_ble_eq_true rfl, Nat.le_of_ble_eq_true rfl⟩) hS (fun q _ h => hFc q h) hFc (fun u_11 t_11 H12 locs ht hvm hw hB hz1 hk1 hS => ?_)
      obtain ⟨hw, hens13⟩ := hw
      obtain ⟨hP1, hD1⟩ := hB
      rw [ht] at hP1
      subst hw
      obtain ⟨hP, hD⟩ := va_join (wc := cSt (fun j => a (1 + j)) cI (Gn9 0)) (wr := [(a 0, .inr (5, [.ref (a 1), .ref (a 13), .ref (a 25), .ref (a 87), .ref (a 91)])), (a 13, .inr (4, [.ref (a 14), .ref (a 15), .ref (a 16), .int ((Gn9 1) 10 0), .int ((Gn9 1) 10 1), .int ((Gn9 1) 10 2), .ref (a 17), .ref (a 18), .ref (a 19), .ref (a 20), .ref (a 21), .int ((Gn9 1) 10 3), .int ((Gn9 1) 10 4), .int ((Gn9 1) 10 5), .int ((Gn9 1) 10 6), .ref (a 22), .int ((Gn9 1) 10 7), .ref (a 23)])), (a 14, .inl (cI, 12, .inl ((Gn9 1) 0))), (a 15, .inl (cI, 16, .inl ((Gn9 1) 1))), (a 16, .inl (cI, 12, .inl ((Gn9 1) 2))), (a 17, .inl (cI, 48, .inl ((Gn9 1) 3))), (a 18, .inl (cI, 4, .inl ((Gn9 1) 4))), (a 19, .inl (cI, 4, .inl ((Gn9 1) 5))), (a 20, .inl (cI, 12, .inl ((Gn9 1) 6))), (a 21, .inl (cI, 4, .inl ((Gn9 1) 7))), (a 22, .inl (cI, 102, .inl ((Gn9 1) 8))), (a 23, .inr (0, [.int ((Gn9 1) 11 0), .int ((Gn9 1) 11 1), .int ((Gn9 1) 11 2), .int ((Gn9 1) 11 3), .ref (a 24)])), (a 24, .inl (cI, 16, .inl ((Gn9 1) 9))), (a 25, .inr (1, [.ref (a 26), .int ((Gn9 7) 0 0), .int ((Gn9 7) 0 1)])), (a 26, .inl (cS, 5, .inr (.inr (.inr (.inr (kf a)))))), (a 27, .inr (4, [.ref (a 28), .ref (a 29), .ref (a 30), .int ((Gn9 2) 10 0), .int ((Gn9 2) 10 1), .int ((Gn9 2) 10 2), .ref (a 31), .ref (a 32), .ref (a 33), .ref (a 34), .ref (a 35), .int ((Gn9 2) 10 3), .int ((Gn9 2) 10 4), .int ((Gn9 2) 10 5), .int ((Gn9 2) 10 6), .ref (a 36), .int ((Gn9 2) 10 7), .ref (a 37)])), (a 28, .inl (cI, 12, .inl ((Gn9 2) 0))), (a 29, .inl (cI, 16, .inl ((Gn9 2) 1))), (a 30, .inl (cI, 12, .inl ((Gn9 2) 2))), (a 31, .inl (cI, 48, .inl ((Gn9 2) 3))), (a 32, .inl (cI, 4, .inl ((Gn9 2) 4))), (a 33, .inl (cI, 4, .inl ((Gn9 2) 5))), (a 34, .inl (cI, 12, .inl ((Gn9 2) 6))), (a 35, .inl (cI, 4, .inl ((Gn9 2) 7))), (a 36, .inl (cI, 102, .inl ((Gn9 2) 8))), (a 37, .inr (0, [.int ((Gn9 2) 11 0), .int ((Gn9 2) 11 1), .int ((Gn9 2) 11 2), .int ((Gn9 2) 11 3), .ref (a 38)])), (a 38, .inl (cI, 16, .inl ((Gn9 2) 9))), (a 39, .inr (4, [.ref (a 40), .ref (a 41), .ref (a 42), .int ((Gn9 3) 10 0), .int ((Gn9 3) 10 1), .int ((Gn9 3) 10 2), .ref (a 43), .ref (a 44), .ref (a 45), .ref (a 46), .ref (a 47), .int ((Gn9 3) 10 3), .int ((Gn9 3) 10 4), .int ((Gn9 3) 10 5), .int ((Gn9 3) 10 6), .ref (a 48), .int ((Gn9 3) 10 7), .ref (a 49)])), (a 40, .inl (cI, 12, .inl ((Gn9 3) 0))), (a 41, .inl (cI, 16, .inl ((Gn9 3) 1))), (a 42, .inl (cI, 12, .inl ((Gn9 3) 2))), (a 43, .inl (cI, 48, .inl ((Gn9 3) 3))), (a 44, .inl (cI, 4, .inl ((Gn9 3) 4))), (a 45, .inl (cI, 4, .inl ((Gn9 3) 5))), (a 46, .inl (cI, 12, .inl ((Gn9 3) 6))), (a 47, .inl (cI, 4, .inl ((Gn9 3) 7))), (a 48, .inl (cI, 102, .inl ((Gn9 3) 8))), (a 49, .inr (0, [.int ((Gn9 3) 11 0), .int ((Gn9 3) 11 1), .int ((Gn9 3) 11 2), .int ((Gn9 3) 11 3), .ref (a 50)])), (a 50, .inl (cI, 16, .inl ((Gn9 3) 9))), (a 51, .inr (4, [.ref (a 52), .ref (a 53), .ref (a 54), .int ((Gn9 4) 10 0), .int ((Gn9 4) 10 1), .int ((Gn9 4) 10 2), .ref (a 55), .ref (a 56), .ref (a 57), .ref (a 58), .ref (a 59), .int ((Gn9 4) 10 3), .int ((Gn9 4) 10 4), .int ((Gn9 4) 10 5), .int ((Gn9 4) 10 6), .ref (a 60), .int ((Gn9 4) 10 7), .ref (a 61)])), (a 52, .inl (cI, 12, .inl ((Gn9 4) 0))), (a 53, .inl (cI, 16, .inl ((Gn9 4) 1))), (a 54, .inl (cI, 12, .inl ((Gn9 4) 2))), (a 55, .inl (cI, 48, .inl ((Gn9 4) 3))), (a 56, .inl (cI, 4, .inl ((Gn9 4) 4))), (a 57, .inl (cI, 4, .inl ((Gn9 4) 5))), (a 58, .inl (cI, 12, .inl ((Gn9 4) 6))), (a 59, .inl (cI, 4, .inl ((Gn9 4) 7))), (a 60, .inl (cI, 102, .inl ((Gn9 4) 8))), (a 61, .inr (0, [.int ((Gn9 4) 11 0), .int ((Gn9 4) 11 1), .int ((Gn9 4) 11 2), .int ((Gn9 4) 11 3), .ref (a 62)])), (a 62, .inl (cI, 16, .inl ((Gn9 4) 9))), (a 63, .inr (4, [.ref (a 64), .ref (a 65), .ref (a 66), .int ((Gn9 5) 10 0), .int ((Gn9 5) 10 1), .int ((Gn9 5) 10 2), .ref (a 67), .ref (a 68), .ref (a 69), .ref (a 70), .ref (a 71), .int ((Gn9 5) 10 3), .int ((Gn9 5) 10 4), .int ((Gn9 5) 10 5), .int ((Gn9 5) 10 6), .ref (a 72), .int ((Gn9 5) 10 7), .ref (a 73)])), (a 64, .inl (cI, 12, .inl ((Gn9 5) 0))), (a 65, .inl (cI, 16, .inl ((Gn9 5) 1))), (a 66, .inl (cI, 12, .inl ((Gn9 5) 2))), (a 67, .inl (cI, 48, .inl ((Gn9 5) 3))), (a 68, .inl (cI, 4, .inl ((Gn9 5) 4))), (a 69, .inl (cI, 4, .inl ((Gn9 5) 5))), (a 70, .inl (cI, 12, .inl ((Gn9 5) 6))), (a 71, .inl (cI, 4, .inl ((Gn9 5) 7))), (a 72, .inl (cI, 102, .inl ((Gn9 5) 8))), (a 73, .inr (0, [.int ((Gn9 5) 11 0), .int ((Gn9 5) 11 1), .int ((Gn9 5) 11 2), .int ((Gn9 5) 11 3), .ref (a 74)])), (a 74, .inl (cI, 16, .inl ((Gn9 5) 9))), (a 75, .inr (4, [.ref (a 76), .ref (a 77), .ref (a 78), .int ((Gn9 6) 10 0), .int ((Gn9 6) 10 1), .int ((Gn9 6) 10 2), .ref (a 79), .ref (a 80), .ref (a 81), .ref (a 82), .ref (a 83), .int ((Gn9 6) 10 3), .int ((Gn9 6) 10 4), .int ((Gn9 6) 10 5), .int ((Gn9 6) 10 6), .ref (a 84), .int ((Gn9 6) 10 7), .ref (a 85)])), (a 76, .inl (cI, 12, .inl ((Gn9 6) 0))), (a 77, .inl (cI, 16, .inl ((Gn9 6) 1))), (a 78, .inl (cI, 12, .inl ((Gn9 6) 2))), (a 79, .inl (cI, 48, .inl ((Gn9 6) 3))), (a 80, .inl (cI, 4, .inl ((Gn9 6) 4))), (a 81, .inl (cI, 4, .inl ((Gn9 6) 5))), (a 82, .inl (cI, 12, .inl ((Gn9 6) 6))), (a 83, .inl (cI, 4, .inl ((Gn9 6) 7))), (a 84, .inl (cI, 102, .inl ((Gn9 6) 8))), (a 85, .inr (0, [.int ((Gn9 6) 11 0), .int ((Gn9 6) 11 1), .int ((Gn9 6) 11 2), .int ((Gn9 6) 11 3), .ref (a 86)])), (a 86, .inl (cI, 16, .inl ((Gn9 6) 9))), (a 87, .inr (3, [.ref (a 1), .ref (a 88), .ref (a 89), .ref (a 90)])), (a 88, .inl (cI, 12, .inl ((Gn9 8) 0))), (a 89, .inl (cI, 12, .inl ((Gn9 8) 1))), (a 90, .inl (cI, 4, .inl ((Gn9 8) 2))), (a 91, .inr (2, [.ref (a 92), .int ((Gn9 9) 1 0), .int ((Gn9 9) 1 1)])), (a 92, .inl (cC, 140, .inl ((Gn9 9) 0)))]) (w1 := cSt (fun j => a (1 + j)) cI (f_X4_goOn (Gn9 0) p1)) hP hD [1, 2, 3, 4, 5, 6, 7, 8, 9, 10, 11, 12] [0, 13, 14, 15, 16, 17, 18, 19, 20, 21, 22, 23, 24, 25, 26, 27, 28, 29, 30, 31, 32, 33, 34, 35, 36, 37, 38, 39, 40, 41, 42, 43, 44, 45, 46, 47, 48, 49, 50, 51, 52, 53, 54, 55, 56, 57, 58, 59, 60, 61, 62, 63, 64, 65, 66, 67, 68, 69, 70, 71, 72, 73, 74, 75, 76, 77, 78, 79, 80, 81, 82, 83, 84, 85, 86, 87, 88, 89, 90, 91, 92] rfl rfl (by decide) (by decide) hk1 hFc hP1 hD1
      have hP : va_P (dC, dI) vwCl (cDk a cI cC cS (va_up Gn9 0 (f_X4_goOn (Gn9 0) p1))) H12 := hP.sub [0, 81, 82, 83, 84, 85, 86, 87, 88, 89, 90, 91, 92, 1, 2, 3, 4, 5, 6, 7, 8, 9, 10, 11, 12, 13, 14, 15, 16, 17, 18, 19, 20, 21, 22, 23, 24, 25, 26, 27, 28, 29, 30, 31, 32, 33, 34, 35, 36, 37, 38, 39, 40, 41, 42, 43, 44, 45, 46, 47, 48, 49, 50, 51, 52, 53, 54, 55, 56, 57, 58, 59, 60, 61, 62, 63, 64, 65, 66, 67, 68, 69, 70, 71, 72, 73, 74, 75, 76, 77, 78, 79, 80] rfl
      have hD : va_D (va_A (cDk a cI cC cS G) s.heap.size) (cDk a cI cC cS (va_up Gn9 0 (f_X4_goOn (Gn9 0) p1))) := hD.sub [0, 81, 82, 83, 84, 85, 86, 87, 88, 89, 90, 91, 92, 1, 2, 3, 4, 5, 6, 7, 8, 9, 10, 11, 12, 13, 14, 15, 16, 17, 18, 19, 20, 21, 22, 23, 24, 25, 26, 27, 28, 29, 30, 31, 32, 33, 34, 35, 36, 37, 38, 39, 40, 41, 42, 43, 44, 45, 46, 47, 48, 49, 50, 51, 52, 53, 54, 55, 56, 57, 58, 59, 60, 61, 62, 63, 64, 65, 66, 67, 68, 69, 70, 71, 72, 73, 74, 75, 76, 77, 78, 79, 80] (by decide) rfl
      obtain ⟨Gn14, eGn14⟩ : ∃ z : GR, z = va_up Gn9 0 (f_X4_goOn (Gn9 0) p1) := ⟨_, rfl⟩
      rw [sLet_eq, ← eGn14] at hR
      rw [← eGn14] at hP hD
      have hG15 : WFG Gn14 := (by rw [eGn14]; exact wfg_st hG10 (by decide) hens13)
      refine lv_aload_n hx hb dX5_run_49 rfl (lv_at hl 0 rfl) ?_
      refine va_get (D := (dC, dI)) (ci := 5) (v := .ref (a 1)) (C := RX5) (T := TX5) (N := 5) hx hb hts hin5 hown hK hP 0 rfl rfl 0 (by decide) (hts (.fieldLink RX5 12 "FeedDesk" "now" "LFeedDesk$State;") (List.mem_of_getElem? (i := 1) rfl)) (fun _ h9 => h9) rfl dX5_run_50 ?_
      refine va_getN (D := (dC, dI)) (ci := 4) (v := .int ((Gn14 0) 10 4)) (C := RX4) (T := TX4) (N := 18) hx hb hts hin4 hown hK hP 1 rfl rfl 12 (by decide) (va_Nw.use rfl (hN.at 29 rfl)) (fun _ h9 => h9) rfl dX5_run_53 ?_
      exact W.iret (v := (Gn14 0) 10 4) hx hb hr (fun t ht hWw => ⟨⟨(Gn14 0) 10 4, Gn14, rfl, ⟨hR.symm.trans eR, hG15⟩, by rw [ht]; exact hP, hD⟩, hS.F ht⟩) hS.2.2 dX5_run_56
    · rw [if_neg c5] at hR
      refine lv_bipush (v := (-3)) hx hb dX5_run_27 (by decide) ?_
      exact W.iret (v := (-3)) hx hb hr (fun t ht hWw => ⟨⟨(-3), G, rfl, ⟨hR.symm.trans eR, hG⟩, by rw [ht]; exact hP, hD⟩, hS.F ht⟩) hS.2.2 dX5_run_29
  · rw [if_pos c4] at hR
    refine lv_iconst (v := (-1)) hx hb dX5_run_10 (by decide) ?_
    exact W.iret (v := (-1)) hx hb hr (fun t ht hWw => ⟨⟨(-1), G, rfl, ⟨hR.symm.trans eR, hG⟩, by rw [ht]; exact hP, hD⟩, hS.F ht⟩) hS.2.2 dX5_run_11
abbrev rm_X5_reset : Room := { frames := 4, cells := 0, slots := 0, locals := 81 }
def f_X5_reset (G : GR)  : Int32 × GR := sLet ((f_X1_keep G)) (fun Gn4 : GR => sLet (va_up Gn4 0 (sU (Gn4 0) 10 5 0)) (fun Gn7 : GR => sLet (va_up Gn7 0 (sU (Gn7 0) 10 6 0)) (fun Gn10 : GR => ((Gn4 0) 10 5, Gn10))))
set_option maxHeartbeats 4000000 in
set_option maxRecDepth 100000 in
theorem c_X5_reset (l : Launch) (dC : Nat → ClassId) (dI : Nat → Nat → Nat) (cI cC cS : ClassId) (a : Nat → Nat) (G : GR) (sz : Nat)  (hG : WFG G) : Met l yX5_reset wsX5_reset rm_X5_reset (PcG (dC, dI) (tyL cI cC cS) (cDk a cI cC cS G) sz [.ref (a 0)]) (va_Qi (fun (r : Int32) (u : GR) => (r, u) = f_X5_reset G ∧ (WFG u)) (fun u U => va_P (dC, dI) vwCl (cDk a cI cC cS u) U.heap ∧ va_D (va_A (cDk a cI cC cS G) sz) (cDk a cI cC cS u)) (va_A (cDk a cI cC cS G) sz)) 0 0 (va_A (cDk a cI cC cS G) sz) := by
  refine Met.ofW (cc := cX5_reset) (maxL := 2) (ret := (some .int)) (by decide) rfl ?_
  intro p e s m args below meth c s₁ B hml hv
  obtain ⟨rfl, hsz, hP, hK, hD0, hN⟩ := hv
  have hx := B.exec
  have hb := B.bytes
  have hr := B.returns
  have hts := atoms_spec (ws := wsX5_reset) B.pre
  have hown : s.vm.findClass RX5 = some m.cls := findClass_of_methodNamed B.named
  have hlocks := B.notSynchronized
  subst hsz
  have hD := hD0.self (sz := s.heap.size)
  have hA : ∀ q : Nat, s.heap.size ≤ q → (va_A (cDk a cI cC cS G) s.heap.size) q := fun q h => Or.inr h
  have hS : va_S (va_A (cDk a cI cC cS G) s.heap.size) s.heap s.heap [] := va_S.rf
  have hin5 : ∀ w ∈ wsX50, w ∈ wsX5_reset := fun _ h => List.mem_cons_of_mem _ (List.mem_append_left _ (List.mem_append_left _ (List.mem_append_left _ (List.mem_append_right _ h))))
  have hin4 : ∀ w ∈ wsX40, w ∈ wsX5_reset := fun _ h => List.mem_cons_of_mem _ (List.mem_append_left _ (List.mem_append_left _ (List.mem_append_right _ h)))
  have hl := lv_entry [.ref (a 0)] (n := 2) (Nat.le_of_ble_eq_true rfl)
  rw [lg_entry_eq]
  generalize (lg_sl [.ref (a 0)] ++ List.replicate (2 - (lg_sl [.ref (a 0)]).length) Slot.unset).toArray = ls at hl ⊢
  have hl : lv_has ls 2 [(0, .ref (a 0))] := hl
  obtain ⟨R0, eR⟩ : ∃ z, z = f_X5_reset G := ⟨_, rfl⟩
  have hR := eR
  rw [f_X5_reset] at hR
  refine lv_aload_n hx hb dX5_reset_0 rfl (lv_at hl 0 rfl) ?_
  refine va_get (D := (dC, dI)) (ci := 5) (v := .ref (a 25)) (C := RX5) (T := TX5) (N := 5) hx hb hts hin5 hown hK hP 0 rfl rfl 2 (by decide) (hts (.fieldLink RX5 22 "FeedDesk" "history" "LFeedDesk$History;") (List.mem_of_getElem? (i := 1) rfl)) (fun _ h9 => h9) rfl dX5_reset_1 ?_
  refine lv_aload_n hx hb dX5_reset_4 rfl (lv_at hl 0 rfl) ?_
  refine va_get (D := (dC, dI)) (ci := 5) (v := .ref (a 1)) (C := RX5) (T := TX5) (N := 5) hx hb hts hin5 hown hK hP 0 rfl rfl 0 (by decide) (hts (.fieldLink RX5 12 "FeedDesk" "now" "LFeedDesk$State;") (List.mem_of_getElem? (i := 2) rfl)) (fun _ h9 => h9) rfl dX5_reset_5 ?_
  have hPc : va_P (dC, dI) vwCl (cDk a cI cC cS G) s.heap := hP.sub [0, 1, 2, 3, 4, 5, 6, 7, 8, 9, 10, 11, 12, 13, 14, 15, 16, 17, 18, 19, 20, 21, 22, 23, 24, 25, 26, 27, 28, 29, 30, 31, 32, 33, 34, 35, 36, 37, 38, 39, 40, 41, 42, 43, 44, 45, 46, 47, 48, 49, 50, 51, 52, 53, 54, 55, 56, 57, 58, 59, 60, 61, 62, 63, 64, 65, 66, 67, 68, 69, 70, 71, 72, 73, 74, 75, 76, 77, 78, 79, 80, 81, 82, 83, 84, 85, 86, 87, 88, 89, 90, 91, 92] rfl
  have hDc : va_D (va_A (cDk a cI cC cS G) s.heap.size) (cDk a cI cC cS G) := hD.sub [0, 1, 2, 3, 4, 5, 6, 7, 8, 9, 10, 11, 12, 13, 14, 15, 16, 17, 18, 19, 20, 21, 22, 23, 24, 25, 26, 27, 28, 29, 30, 31, 32, 33, 34, 35, 36, 37, 38, 39, 40, 41, 42, 43, 44, 45, 46, 47, 48, 49, 50, 51, 52, 53, 54, 55, 56, 57, 58, 59, 60, 61, 62, 63, 64, 65, 66, 67, 68, 69, 70, 71, 72, 73, 74, 75, 76, 77, 78, 79, 80, 81, 82, 83, 84, 85, 86, 87, 88, 89, 90, 91, 92] (by decide) rfl
  have hFc : ∀ q : Nat, va_A (cDk a cI cC cS G) s.heap.size q → (va_A (cDk a cI cC cS G) s.heap.size) q := va_free hD hS hA [0, 1, 2, 3, 4, 5, 6, 7, 8, 9, 10, 11, 12, 13, 14, 15, 16, 17, 18, 19, 20, 21, 22, 23, 24, 25, 26, 27, 28, 29, 30, 31, 32, 33, 34, 35, 36, 37, 38, 39, 40, 41, 42, 43, 44, 45, 46, 47, 48, 49, 50, 51, 52, 53, 54, 55, 56, 57, 58, 59, 60, 61, 62, 63, 64, 65, 66, 67, 68, 69, 70, 71, 72, 73, 74, 75, 76, 77, 78, 79, 80, 81, 82, 83, 84, 85, 86, 87, 88, 89, 90, 91, 92] rfl
  refine va_callv (va_runV (As := [.ref (a 1)]) (rest := []) ⟨hx, hb, hml, hown, hts⟩ (c_X1_keep l dC dI cI cC cS a G s.heap.size hG) (cwV 1 hts gX5_reset_X1_keep rfl rfl rfl (by decide +kernel) ⟨Nat.le_of_ble_eq_true rfl, Nat.le_of_ble_eq_true rfl⟩) (pV (q0 := 25) hK hPc hDc hN rfl rfl) rfl rfl hl.1 rfl (lv_room (Nat.le_of_ble_eq_true rfl)) dX5_reset_8 ⟨Nat.le_of_ble_eq_true rfl, Nat.le_of_ble_eq_true rfl⟩) hS (fun q _ h => hFc q h) hFc (fun u_1 t_1 H2 locs ht hvm hw hB hz1 hk1 hS => ?_)
  obtain ⟨hw, hens3⟩ := hw
  obtain ⟨hP1, hD1⟩ := hB
  rw [ht] at hP1
  subst hw
  obtain ⟨hP, hD⟩ := va_join (wc := cDk a cI cC cS G) (wr := []) (w1 := cDk a cI cC cS (f_X1_keep G)) hP hD [0, 1, 2, 3, 4, 5, 6, 7, 8, 9, 10, 11, 12, 13, 14, 15, 16, 17, 18, 19, 20, 21, 22, 23, 24, 25, 26, 27, 28, 29, 30, 31, 32, 33, 34, 35, 36, 37, 38, 39, 40, 41, 42, 43, 44, 45, 46, 47, 48, 49, 50, 51, 52, 53, 54, 55, 56, 57, 58, 59, 60, 61, 62, 63, 64, 65, 66, 67, 68, 69, 70, 71, 72, 73, 74, 75, 76, 77, 78, 79, 80, 81, 82, 83, 84, 85, 86, 87, 88, 89, 90, 91, 92] [] rfl rfl (by decide) (by decide) hk1 hFc hP1 hD1
  have hP : va_P (dC, dI) vwCl (cDk a cI cC cS (f_X1_keep G)) H2 := hP.sub [0, 1, 2, 3, 4, 5, 6, 7, 8, 9, 10, 11, 12, 13, 14, 15, 16, 17, 18, 19, 20, 21, 22, 23, 24, 25, 26, 27, 28, 29, 30, 31, 32, 33, 34, 35, 36, 37, 38, 39, 40, 41, 42, 43, 44, 45, 46, 47, 48, 49, 50, 51, 52, 53, 54, 55, 56, 57, 58, 59, 60, 61, 62, 63, 64, 65, 66, 67, 68, 69, 70, 71, 72, 73, 74, 75, 76, 77, 78, 79, 80, 81, 82, 83, 84, 85, 86, 87, 88, 89, 90, 91, 92] rfl
  have hD : va_D (va_A (cDk a cI cC cS G) s.heap.size) (cDk a cI cC cS (f_X1_keep G)) := hD.sub [0, 1, 2, 3, 4, 5, 6, 7, 8, 9, 10, 11, 12, 13, 14, 15, 16, 17, 18, 19, 20, 21, 22, 23, 24, 25, 26, 27, 28, 29, 30, 31, 32, 33, 34, 35, 36, 37, 38, 39, 40, 41, 42, 43, 44, 45, 46, 47, 48, 49, 50, 51, 52, 53, 54, 55, 56, 57, 58, 59, 60, 61, 62, 63, 64, 65, 66, 67, 68, 69, 70, 71, 72, 73, 74, 75, 76, 77, 78, 79, 80, 81, 82, 83, 84, 85, 86, 87, 88, 89, 90, 91, 92] (by decide) rfl
  obtain ⟨Gn4, eGn4⟩ : ∃ z : GR, z = (f_X1_keep G) := ⟨_, rfl⟩
  rw [sLet_eq, ← eGn4] at hR
  rw [← eGn4] at hP hD
  have hG5 : WFG Gn4 := by rw [eGn4]; exact hens3
  refine lv_aload_n hx hb dX5_reset_11 rfl (lv_at hl 0 rfl) ?_
  refine va_get (D := (dC, dI)) (ci := 5) (v := .ref (a 1)) (C := RX5) (T := TX5) (N := 5) hx hb hts hin5 hown hK hP 0 rfl rfl 0 (by decide) (hts (.fieldLink RX5 12 "FeedDesk" "now" "LFeedDesk$State;") (List.mem_of_getElem? (i := 2) rfl)) (fun _ h9 => h9) rfl dX5_reset_12 ?_
  refine va_getN (D := (dC, dI)) (ci := 4) (v := .int ((Gn4 0) 10 5)) (C := RX4) (T := TX4) (N := 18) hx hb hts hin4 hown hK hP 1 rfl rfl 13 (by decide) (va_Nw.use rfl (hN.at 30 rfl)) (fun _ h9 => h9) rfl dX5_reset_15 ?_
  refine lv_istore_n (lv' := [(1, .int ((Gn4 0) 10 5)), (0, .ref (a 0))]) hx hb dX5_reset_18 rfl hl (by decide) rfl (fun ls hl => ?_)
  refine lv_aload_n hx hb dX5_reset_19 rfl (lv_at hl 1 rfl) ?_
  refine va_get (D := (dC, dI)) (ci := 5) (v := .ref (a 1)) (C := RX5) (T := TX5) (N := 5) hx hb hts hin5 hown hK hP 0 rfl rfl 0 (by decide) (hts (.fieldLink RX5 12 "FeedDesk" "now" "LFeedDesk$State;") (List.mem_of_getElem? (i := 2) rfl)) (fun _ h9 => h9) rfl dX5_reset_20 ?_
  refine lv_iconst (v := 0) hx hb dX5_reset_23 (by decide) ?_
  refine va_putN (D := (dC, dI)) (ci := 4) (v := .int 0) (ty := .int) (C := RX4) (T := TX4) (N := 18) hx hb hts hin4 tyX4 tyX4_ok nmX4 hown hK hP hD hS 1 rfl rfl 13 (by decide) (va_Nw.use rfl (hN.at 30 rfl)) (fun _ h9 => h9) rfl (by decide +kernel) rfl rfl (Nat.le_of_ble_eq_true rfl) dX5_reset_24 (fun H6 locs hP hD hS => ?_)
  have hP : va_P (dC, dI) vwCl (cDk a cI cC cS (va_up Gn4 0 (sU (Gn4 0) 10 5 0))) H6 := hP
  have hD : va_D (va_A (cDk a cI cC cS G) s.heap.size) (cDk a cI cC cS (va_up Gn4 0 (sU (Gn4 0) 10 5 0))) := hD
  obtain ⟨Gn7, eGn7⟩ : ∃ z : GR, z = va_up Gn4 0 (sU (Gn4 0) 10 5 0) := ⟨_, rfl⟩
  rw [sLet_eq, ← eGn7] at hR
  rw [← eGn7] at hP hD
  have hG8 : WFG Gn7 := (by rw [eGn7]; exact wfg_st hG5 (by decide) (show WF (sU (Gn4 0) 10 5 0) from hG5.1 0 (by decide)))
  refine lv_aload_n hx hb dX5_reset_27 rfl (lv_at hl 1 rfl) ?_
  refine va_get (D := (dC, dI)) (ci := 5) (v := .ref (a 1)) (C := RX5) (T := TX5) (N := 5) hx hb hts hin5 hown hK hP 0 rfl rfl 0 (by decide) (hts (.fieldLink RX5 12 "FeedDesk" "now" "LFeedDesk$State;") (List.mem_of_getElem? (i := 2) rfl)) (fun _ h9 => h9) rfl dX5_reset_28 ?_
  refine lv_iconst (v := 0) hx hb dX5_reset_31 (by decide) ?_
  refine va_putN (D := (dC, dI)) (ci := 4) (v := .int 0) (ty := .int) (C := RX4) (T := TX4) (N := 18) hx hb hts hin4 tyX4 tyX4_ok nmX4 hown hK hP hD hS 1 rfl rfl 14 (by decide) (va_Nw.use rfl (hN.at 31 rfl)) (fun _ h9 => h9) rfl (by decide +kernel) rfl rfl (Nat.le_of_ble_eq_true rfl) dX5_reset_32 (fun H9 locs hP hD hS => ?_)
  have hP : va_P (dC, dI) vwCl (cDk a cI cC cS (va_up Gn7 0 (sU (Gn7 0) 10 6 0))) H9 := hP
  have hD : va_D (va_A (cDk a cI cC cS G) s.heap.size) (cDk a cI cC cS (va_up Gn7 0 (sU (Gn7 0) 10 6 0))) := hD
  obtain ⟨Gn10, eGn10⟩ : ∃ z : GR, z = va_up Gn7 0 (sU (Gn7 0) 10 6 0) := ⟨_, rfl⟩
  rw [sLet_eq, ← eGn10] at hR
  rw [← eGn10] at hP hD
  have hG11 : WFG Gn10 := (by rw [eGn10]; exact wfg_st hG8 (by decide) (show WF (sU (Gn7 0) 10 6 0) from hG8.1 0 (by decide)))
  refine lv_iload_n hx hb dX5_reset_35 rfl (lv_at hl 0 rfl) ?_
  exact W.iret (v := (Gn4 0) 10 5) hx hb hr (fun t ht hWw => ⟨⟨(Gn4 0) 10 5, Gn10, rfl, ⟨hR.symm.trans eR, hG11⟩, by rw [ht]; exact hP, hD⟩, hS.F ht⟩) hS.2.2 dX5_reset_36
abbrev rm_X5_undo : Room := { frames := 4, cells := 0, slots := 0, locals := 81 }
def f_X5_undo (G : GR)  : Int32 × GR := (if ((G 7) 0 1) = 0 then ((-2), G) else sLet ((f_X1_restoreInto G)) (fun Gn5 : GR => ((Gn5 7) 0 1, Gn5)))
set_option maxHeartbeats 4000000 in
set_option maxRecDepth 100000 in
theorem c_X5_undo (l : Launch) (dC : Nat → ClassId) (dI : Nat → Nat → Nat) (cI cC cS : ClassId) (a : Nat → Nat) (G : GR) (sz : Nat)  (hG : WFG G) : Met l yX5_undo wsX5_undo rm_X5_undo (PcG (dC, dI) (tyL cI cC cS) (cDk a cI cC cS G) sz [.ref (a 0)]) (va_Qi (fun (r : Int32) (u : GR) => (r, u) = f_X5_undo G ∧ (WFG u)) (fun u U => va_P (dC, dI) vwCl (cDk a cI cC cS u) U.heap ∧ va_D (va_A (cDk a cI cC cS G) sz) (cDk a cI cC cS u)) (va_A (cDk a cI cC cS G) sz)) 0 0 (va_A (cDk a cI cC cS G) sz) := by
  refine Met.ofW (cc := cX5_undo) (maxL := 1) (ret := (some .int)) (by decide) rfl ?_
  intro p e s m args below meth c s₁ B hml hv
  obtain ⟨rfl, hsz, hP, hK, hD0, hN⟩ := hv
  have hx := B.exec
  have hb := B.bytes
  have hr := B.returns
  have hts := atoms_spec (ws := wsX5_undo) B.pre
  have hown : s.vm.findClass RX5 = some m.cls := findClass_of_methodNamed B.named
  have hlocks := B.notSynchronized
  subst hsz
  have hD := hD0.self (sz := s.heap.size)
  have hA : ∀ q : Nat, s.heap.size ≤ q → (va_A (cDk a cI cC cS G) s.heap.size) q := fun q h => Or.inr h
  have hS : va_S (va_A (cDk a cI cC cS G) s.heap.size) s.heap s.heap [] := va_S.rf
  have hin5 : ∀ w ∈ wsX50, w ∈ wsX5_undo := fun _ h => List.mem_cons_of_mem _ (List.mem_append_left _ (List.mem_append_left _ (List.mem_append_left _ (List.mem_append_right _ h))))
  have hin1 : ∀ w ∈ wsX10, w ∈ wsX5_undo := fun _ h => List.mem_cons_of_mem _ (List.mem_append_left _ (List.mem_append_left _ (List.mem_append_right _ h)))
  have hl := lv_entry [.ref (a 0)] (n := 1) (Nat.le_of_ble_eq_true rfl)
  rw [lg_entry_eq]
  generalize (lg_sl [.ref (a 0)] ++ List.replicate (1 - (lg_sl [.ref (a 0)]).length) Slot.unset).toArray = ls at hl ⊢
  have hl : lv_has ls 1 [(0, .ref (a 0))] := hl
  obtain ⟨R0, eR⟩ : ∃ z, z = f_X5_undo G := ⟨_, rfl⟩
  have hR := eR
  rw [f_X5_undo] at hR
  refine lv_aload_n hx hb dX5_undo_0 rfl (lv_at hl 0 rfl) ?_
  refine va_get (D := (dC, dI)) (ci := 5) (v := .ref (a 25)) (C := RX5) (T := TX5) (N := 5) hx hb hts hin5 hown hK hP 0 rfl rfl 2 (by decide) (hts (.fieldLink RX5 22 "FeedDesk" "history" "LFeedDesk$History;") (List.mem_of_getElem? (i := 1) rfl)) (fun _ h9 => h9) rfl dX5_undo_1 ?_
  refine va_getN (D := (dC, dI)) (ci := 1) (v := .int ((G 7) 0 1)) (C := RX1) (T := TX1) (N := 3) hx hb hts hin1 hown hK hP 25 rfl rfl 2 (by decide) (va_Nw.use rfl (hN.at 35 rfl)) (fun _ h9 => h9) rfl dX5_undo_4 ?_
  refine lv_if_ne (tgt := 13) hx hb dX5_undo_7 (by decide) (fun c1 => ?_) (fun c1 => ?_)
  · rw [if_neg c1] at hR
    refine lv_aload_n hx hb dX5_undo_13 rfl (lv_at hl 0 rfl) ?_
    refine va_get (D := (dC, dI)) (ci := 5) (v := .ref (a 25)) (C := RX5) (T := TX5) (N := 5) hx hb hts hin5 hown hK hP 0 rfl rfl 2 (by decide) (hts (.fieldLink RX5 22 "FeedDesk" "history" "LFeedDesk$History;") (List.mem_of_getElem? (i := 1) rfl)) (fun _ h9 => h9) rfl dX5_undo_14 ?_
    refine lv_aload_n hx hb dX5_undo_17 rfl (lv_at hl 0 rfl) ?_
    refine va_get (D := (dC, dI)) (ci := 5) (v := .ref (a 1)) (C := RX5) (T := TX5) (N := 5) hx hb hts hin5 hown hK hP 0 rfl rfl 0 (by decide) (hts (.fieldLink RX5 12 "FeedDesk" "now" "LFeedDesk$State;") (List.mem_of_getElem? (i := 2) rfl)) (fun _ h9 => h9) rfl dX5_undo_18 ?_
    have hPc : va_P (dC, dI) vwCl (cDk a cI cC cS G) s.heap := hP.sub [0, 1, 2, 3, 4, 5, 6, 7, 8, 9, 10, 11, 12, 13, 14, 15, 16, 17, 18, 19, 20, 21, 22, 23, 24, 25, 26, 27, 28, 29, 30, 31, 32, 33, 34, 35, 36, 37, 38, 39, 40, 41, 42, 43, 44, 45, 46, 47, 48, 49, 50, 51, 52, 53, 54, 55, 56, 57, 58, 59, 60, 61, 62, 63, 64, 65, 66, 67, 68, 69, 70, 71, 72, 73, 74, 75, 76, 77, 78, 79, 80, 81, 82, 83, 84, 85, 86, 87, 88, 89, 90, 91, 92] rfl
    have hDc : va_D (va_A (cDk a cI cC cS G) s.heap.size) (cDk a cI cC cS G) := hD.sub [0, 1, 2, 3, 4, 5, 6, 7, 8, 9, 10, 11, 12, 13, 14, 15, 16, 17, 18, 19, 20, 21, 22, 23, 24, 25, 26, 27, 28, 29, 30, 31, 32, 33, 34, 35, 36, 37, 38, 39, 40, 41, 42, 43, 44, 45, 46, 47, 48, 49, 50, 51, 52, 53, 54, 55, 56, 57, 58, 59, 60, 61, 62, 63, 64, 65, 66, 67, 68, 69, 70, 71, 72, 73, 74, 75, 76, 77, 78, 79, 80, 81, 82, 83, 84, 85, 86, 87, 88, 89, 90, 91, 92] (by decide) rfl
    have hFc : ∀ q : Nat, va_A (cDk a cI cC cS G) s.heap.size q → (va_A (cDk a cI cC cS G) s.heap.size) q := va_free hD hS hA [0, 1, 2, 3, 4, 5, 6, 7, 8, 9, 10, 11, 12, 13, 14, 15, 16, 17, 18, 19, 20, 21, 22, 23, 24, 25, 26, 27, 28, 29, 30, 31, 32, 33, 34, 35, 36, 37, 38, 39, 40, 41, 42, 43, 44, 45, 46, 47, 48, 49, 50, 51, 52, 53, 54, 55, 56, 57, 58, 59, 60, 61, 62, 63, 64, 65, 66, 67, 68, 69, 70, 71, 72, 73, 74, 75, 76, 77, 78, 79, 80, 81, 82, 83, 84, 85, 86, 87, 88, 89, 90, 91, 92] rfl
    refine va_callv (va_runV (As := [.ref (a 1)]) (rest := []) ⟨hx, hb, hml, hown, hts⟩ (c_X1_restoreInto l dC dI cI cC cS a G s.heap.size c1 hG) (cwV 1 hts gX5_undo_X1_restoreInto rfl rfl rfl (by decide +kernel) ⟨Nat.le_of_ble_eq_true rfl, Nat.le_of_ble_eq_true rfl⟩) (pV (q0 := 25) hK hPc hDc hN rfl rfl) rfl rfl hl.1 rfl (lv_room (Nat.le_of_ble_eq_true rfl)) dX5_undo_21 ⟨Nat.le_of_ble_eq_true rfl, Nat.le_of_ble_eq_true rfl⟩) hS (fun q _ h => hFc q h) hFc (fun u_2 t_2 H3 locs ht hvm hw hB hz1 hk1 hS => ?_)
    obtain ⟨hw, hens4⟩ := hw
    obtain ⟨hP1, hD1⟩ := hB
    rw [ht] at hP1
    subst hw
    obtain ⟨hP, hD⟩ := va_join (wc := cDk a cI cC cS G) (wr := []) (w1 := cDk a cI cC cS (f_X1_restoreInto G)) hP hD [0, 1, 2, 3, 4, 5, 6, 7, 8, 9, 10, 11, 12, 13, 14, 15, 16, 17, 18, 19, 20, 21, 22, 23, 24, 25, 26, 27, 28, 29, 30, 31, 32, 33, 34, 35, 36, 37, 38, 39, 40, 41, 42, 43, 44, 45, 46, 47, 48, 49, 50, 51, 52, 53, 54, 55, 56, 57, 58, 59, 60, 61, 62, 63, 64, 65, 66, 67, 68, 69, 70, 71, 72, 73, 74, 75, 76, 77, 78, 79, 80, 81, 82, 83, 84, 85, 86, 87, 88, 89, 90, 91, 92] [] rfl rfl (by decide) (by decide) hk1 hFc hP1 hD1
    have hP : va_P (dC, dI) vwCl (cDk a cI cC cS (f_X1_restoreInto G)) H3 := hP.sub [0, 1, 2, 3, 4, 5, 6, 7, 8, 9, 10, 11, 12, 13, 14, 15, 16, 17, 18, 19, 20, 21, 22, 23, 24, 25, 26, 27, 28, 29, 30, 31, 32, 33, 34, 35, 36, 37, 38, 39, 40, 41, 42, 43, 44, 45, 46, 47, 48, 49, 50, 51, 52, 53, 54, 55, 56, 57, 58, 59, 60, 61, 62, 63, 64, 65, 66, 67, 68, 69, 70, 71, 72, 73, 74, 75, 76, 77, 78, 79, 80, 81, 82, 83, 84, 85, 86, 87, 88, 89, 90, 91, 92] rfl
    have hD : va_D (va_A (cDk a cI cC cS G) s.heap.size) (cDk a cI cC cS (f_X1_restoreInto G)) := hD.sub [0, 1, 2, 3, 4, 5, 6, 7, 8, 9, 10, 11, 12, 13, 14, 15, 16, 17, 18, 19, 20, 21, 22, 23, 24, 25, 26, 27, 28, 29, 30, 31, 32, 33, 34, 35, 36, 37, 38, 39, 40, 41, 42, 43, 44, 45, 46, 47, 48, 49, 50, 51, 52, 53, 54, 55, 56, 57, 58, 59, 60, 61, 62, 63, 64, 65, 66, 67, 68, 69, 70, 71, 72, 73, 74, 75, 76, 77, 78, 79, 80, 81, 82, 83, 84, 85, 86, 87, 88, 89, 90, 91, 92] (by decide) rfl
    obtain ⟨Gn5, eGn5⟩ : ∃ z : GR, z = (f_X1_restoreInto G) := ⟨_, rfl⟩
    rw [sLet_eq, ← eGn5] at hR
    rw [← eGn5] at hP hD
    have hG6 : WFG Gn5 := by rw [eGn5]; exact hens4
    refine lv_aload_n hx hb dX5_undo_24 rfl (lv_at hl 0 rfl) ?_
    refine va_get (D := (dC, dI)) (ci := 5) (v := .ref (a 25)) (C := RX5) (T := TX5) (N := 5) hx hb hts hin5 hown hK hP 0 rfl rfl 2 (by decide) (hts (.fieldLink RX5 22 "FeedDesk" "history" "LFeedDesk$History;") (List.mem_of_getElem? (i := 1) rfl)) (fun _ h9 => h9) rfl dX5_undo_25 ?_
    refine va_getN (D := (dC, dI)) (ci := 1) (v := .int ((Gn5 7) 0 1)) (C := RX1) (T := TX1) (N := 3) hx hb hts hin1 hown hK hP 25 rfl rfl 2 (by decide) (va_Nw.use rfl (hN.at 35 rfl)) (fun _ h9 => h9) rfl dX5_undo_28 ?_
    exact W.iret (v := (Gn5 7) 0 1) hx hb hr (fun t ht hWw => ⟨⟨(Gn5 7) 0 1, Gn5, rfl, ⟨hR.symm.trans eR, hG6⟩, by rw [ht]; exact hP, hD⟩, hS.F ht⟩) hS.2.2 dX5_undo_31
  · rw [if_pos c1] at hR
    refine lv_bipush (v := (-2)) hx hb dX5_undo_10 (by decide) ?_
    exact W.iret (v := (-2)) hx hb hr (fun t ht hWw => ⟨⟨(-2), G, rfl, ⟨hR.symm.trans eR, hG⟩, by rw [ht]; exact hP, hD⟩, hS.F ht⟩) hS.2.2 dX5_undo_12
abbrev rm_X5_outputIn : Room := { frames := 5, cells := 0, slots := 0, locals := 110 }
def f_X5_outputIn (G : GR) (p1 : Int32) (p2 : Int32) : Int32 × GR := (if (f_X5_isBelow p1 4) = 0 then ((-1), G) else (if (f_X5_isWithin p2 0 100) = 0 then ((-1), G) else sLet (va_up G 1 (G 0)) (fun Gn11 : GR => sLet (va_up Gn11 1 (f_X4_goOn (Gn11 1) p2)) (fun Gn16 : GR => ((Gn16 1) 7 p1.toNatClampNeg, Gn16)))))
set_option maxHeartbeats 4000000 in
set_option maxRecDepth 100000 in
theorem c_X5_outputIn (l : Launch) (dC : Nat → ClassId) (dI : Nat → Nat → Nat) (cI cC cS : ClassId) (a : Nat → Nat) (G : GR) (sz : Nat) (p1 : Int32) (p2 : Int32) (hG : WFG G) : Met l yX5_outputIn wsX5_outputIn rm_X5_outputIn (PcG (dC, dI) (tyL cI cC cS) (cDk a cI cC cS G) sz [.ref (a 0), .int p1, .int p2]) (va_Qi (fun (r : Int32) (u : GR) => (r, u) = f_X5_outputIn G p1 p2 ∧ (WFG u)) (fun u U => va_P (dC, dI) vwCl (cDk a cI cC cS u) U.heap ∧ va_D (va_A (cDk a cI cC cS G) sz) (cDk a cI cC cS u)) (va_A (cDk a cI cC cS G) sz)) 0 0 (va_A (cDk a cI cC cS G) sz) := by
  refine Met.ofW (cc := cX5_outputIn) (maxL := 3) (ret := (some .int)) (by decide) rfl ?_
  intro p e s m args below meth c s₁ B hml hv
  obtain ⟨rfl, hsz, hP, hK, hD0, hN⟩ := hv
  have hx := B.exec
  have hb := B.bytes
  have hr := B.returns
  have hts := atoms_spec (ws := wsX5_outputIn) B.pre
  have hown : s.vm.findClass RX5 = some m.cls := findClass_of_methodNamed B.named
  have hlocks := B.notSynchronized
  subst hsz
  have hD := hD0.self (sz := s.heap.size)
  have hA : ∀ q : Nat, s.heap.size ≤ q → (va_A (cDk a cI cC cS G) s.heap.size) q := fun q h => Or.inr h
  have hS : va_S (va_A (cDk a cI cC cS G) s.heap.size) s.heap s.heap [] := va_S.rf
  have hin5 : ∀ w ∈ wsX50, w ∈ wsX5_outputIn := fun _ h => List.mem_cons_of_mem _ (List.mem_append_left _ (List.mem_append_left _ (List.mem_append_right _ h)))
  have hin4 : ∀ w ∈ wsX40, w ∈ wsX5_outputIn := fun _ h => List.mem_cons_of_mem _ (List.mem_append_left _ (List.mem_append_right _ h))
  have hl := lv_entry [.ref (a 0), .int p1, .int p2] (n := 3) (Nat.le_of_ble_eq_true rfl)
  rw [lg_entry_eq]
  generalize (lg_sl [.ref (a 0), .int p1, .int p2] ++ List.replicate (3 - (lg_sl [.ref (a 0), .int p1, .int p2]).length) Slot.unset).toArray = ls at hl ⊢
  have hl : lv_has ls 3 [(0, .ref (a 0)), (1, .int p1), (2, .int p2)] := hl
  obtain ⟨R0, eR⟩ : ∃ z, z = f_X5_outputIn G p1 p2 := ⟨_, rfl⟩
  have hR := eR
  rw [f_X5_outputIn] at hR
  refine lv_iload_n hx hb dX5_outputIn_0 rfl (lv_at hl 1 rfl) ?_
  refine lv_iconst (v := 4) hx hb dX5_outputIn_1 (by decide) ?_
  have hFc : ∀ q : Nat, va_A [] s.heap.size q → (va_A (cDk a cI cC cS G) s.heap.size) q := roF hS hA
  refine va_calli (va_runS (As := [.int p1, .int 4]) (rest := []) ⟨hx, hb, hml, hown, hts⟩ (c_X5_isBelow l dC dI cI cC cS s.heap.size p1 4) (va_cwS 2 hts gX5_outputIn_X5_isBelow rfl rfl rfl (by decide +kernel) ⟨Nat.le_of_ble_eq_true rfl, Nat.le_of_ble_eq_true rfl⟩) (pS hK (va_P_nil) (va_D_nil) hN) rfl rfl hl.1 rfl (lv_room (Nat.le_of_ble_eq_true rfl)) dX5_outputIn_2 ⟨Nat.le_of_ble_eq_true rfl, Nat.le_of_ble_eq_true rfl⟩) hS (fun q _ h => hFc q h) hFc (fun r_1 u_1 t_1 H2 locs ht hvm hw hB hz1 hk1 hS => ?_)
  obtain ⟨hw, hre3⟩ := hw
  subst hw
  have hP := ro_keep hP hk1
  refine lv_if_eq (tgt := 18) hx hb dX5_outputIn_5 (by decide) (fun c4 => ?_) (fun c4 => ?_)
  · rw [if_pos c4] at hR
    refine lv_iconst (v := (-1)) hx hb dX5_outputIn_18 (by decide) ?_
    exact W.iret (v := (-1)) hx hb hr (fun t ht hWw => ⟨⟨(-1), G, rfl, ⟨hR.symm.trans eR, hG⟩, by rw [ht]; exact hP, hD⟩, hS.F ht⟩) hS.2.2 dX5_outputIn_19
  · rw [if_neg c4] at hR
    refine lv_iload_n hx hb dX5_outputIn_8 rfl (lv_at hl 2 rfl) ?_
    refine lv_iconst (v := 0) hx hb dX5_outputIn_9 (by decide) ?_
    refine lv_bipush (v := 100) hx hb dX5_outputIn_10 (by decide) ?_
    have hFc : ∀ q : Nat, va_A [] H2.size q → (va_A (cDk a cI cC cS G) s.heap.size) q := roF hS hA
    refine va_calli (va_runS (As := [.int p2, .int 0, .int 100]) (rest := []) ⟨hx, hb, hml, hown, hts⟩ (c_X5_isWithin l dC dI cI cC cS H2.size p2 0 100) (va_cwS 3 hts gX5_outputIn_X5_isWithin rfl rfl rfl (by decide +kernel) ⟨Nat.le_of_ble_eq_true rfl, Nat.le_of_ble_eq_true rfl⟩) (pS hK (va_P_nil) (va_D_nil) hN) rfl rfl hl.1 rfl (lv_room (Nat.le_of_ble_eq_true rfl)) dX5_outputIn_12 ⟨Nat.le_of_ble_eq_true rfl, Nat.le_of_ble_eq_true rfl⟩) hS (fun q _ h => hFc q h) hFc (fun r_5 u_5 t_5 H6 locs ht hvm hw hB hz1 hk1 hS => ?_)
    obtain ⟨hw, hre7⟩ := hw
    subst hw
    have hP := ro_keep hP hk1
    refine lv_if_ne (tgt := 20) hx hb dX5_outputIn_15 (by decide) (fun c8 => ?_) (fun c8 => ?_)
    · rw [if_neg c8] at hR
      refine lv_aload_n hx hb dX5_outputIn_20 rfl (lv_at hl 0 rfl) ?_
      refine va_get (D := (dC, dI)) (ci := 5) (v := .ref (a 13)) (C := RX5) (T := TX5) (N := 5) hx hb hts hin5 hown hK hP 0 rfl rfl 1 (by decide) (hts (.fieldLink RX5 16 "FeedDesk" "trial" "LFeedDesk$State;") (List.mem_of_getElem? (i := 1) rfl)) (fun _ h9 => h9) rfl dX5_outputIn_21 ?_
      refine lv_aload_n hx hb dX5_outputIn_24 rfl (lv_at hl 0 rfl) ?_
      refine va_get (D := (dC, dI)) (ci := 5) (v := .ref (a 1)) (C := RX5) (T := TX5) (N := 5) hx hb hts hin5 hown hK hP 0 rfl rfl 0 (by decide) (hts (.fieldLink RX5 12 "FeedDesk" "now" "LFeedDesk$State;") (List.mem_of_getElem? (i := 2) rfl)) (fun _ h9 => h9) rfl dX5_outputIn_25 ?_
      have hPc : va_P (dC, dI) vwCl (cSt (fun j => a (13 + j)) cI (G 1) ++ cSt (fun j => a (1 + j)) cI (G 0)) H6 := hP.sub [13, 14, 15, 16, 17, 18, 19, 20, 21, 22, 23, 24, 1, 2, 3, 4, 5, 6, 7, 8, 9, 10, 11, 12] rfl
      have hDc : va_D (va_A (cDk a cI cC cS G) s.heap.size) (cSt (fun j => a (13 + j)) cI (G 1) ++ cSt (fun j => a (1 + j)) cI (G 0)) := hD.sub [13, 14, 15, 16, 17, 18, 19, 20, 21, 22, 23, 24, 1, 2, 3, 4, 5, 6, 7, 8, 9, 10, 11, 12] (by decide) rfl
      have hFc : ∀ q : Nat, va_A (cSt (fun j => a (13 + j)) cI (G 1) ++ cSt (fun j => a (1 + j)) cI (G 0)) H6.size q → (va_A (cDk a cI cC cS G) s.heap.size) q := va_free hD hS hA [13, 14, 15, 16, 17, 18, 19, 20, 21, 22, 23, 24, 1, 2, 3, 4, 5, 6, 7, 8, 9, 10, 11, 12] rfl
      refine va_callv (va_runV (As := [.ref (a 1)]) (rest := []) ⟨hx, hb, hml, hown, hts⟩ (c_X4_copyFrom l dC dI cI cC cS (fun j => a (13 + j)) (fun j => a (1 + j)) (G 1) (G 0) H6.size) (cwV 1 hts gX5_outputIn_X4_copyFrom rfl rfl rfl (by decide +kernel) ⟨Nat.le_of_ble_eq_true rfl, Nat.le_of_ble_eq_true rfl⟩) (pV (q0 := 0) hK hPc hDc hN rfl rfl) rfl rfl hl.1 rfl (lv_room (Nat.le_of_ble_eq_true rfl)) dX5_outputIn_28 ⟨Nat.le_of_ble_eq_true rfl, Nat.le_of_ble_eq_true rfl⟩) hS (fun q _ h => hFc q h) hFc (fun u_9 t_9 H10 locs ht hvm hw hB hz1 hk1 hS => ?_)
      obtain ⟨hP1, hD1⟩ := hB
      rw [ht] at hP1
      rw [hw] at hP1 hD1
      obtain ⟨hP, hD⟩ := va_join (wc := cSt (fun j => a (13 + j)) cI (G 1) ++ cSt (fun j => a (1 + j)) cI (G 0)) (wr := [(a 0, .inr (5, [.ref (a 1), .ref (a 13), .ref (a 25), .ref (a 87), .ref (a 91)])), (a 25, .inr (1, [.ref (a 26), .int ((G 7) 0 0), .int ((G 7) 0 1)])), (a 26, .inl (cS, 5, .inr (.inr (.inr (.inr (kf a)))))), (a 27, .inr (4, [.ref (a 28), .ref (a 29), .ref (a 30), .int ((G 2) 10 0), .int ((G 2) 10 1), .int ((G 2) 10 2), .ref (a 31), .ref (a 32), .ref (a 33), .ref (a 34), .ref (a 35), .int ((G 2) 10 3), .int ((G 2) 10 4), .int ((G 2) 10 5), .int ((G 2) 10 6), .ref (a 36), .int ((G 2) 10 7), .ref (a 37)])), (a 28, .inl (cI, 12, .inl ((G 2) 0))), (a 29, .inl (cI, 16, .inl ((G 2) 1))), (a 30, .inl (cI, 12, .inl ((G 2) 2))), (a 31, .inl (cI, 48, .inl ((G 2) 3))), (a 32, .inl (cI, 4, .inl ((G 2) 4))), (a 33, .inl (cI, 4, .inl ((G 2) 5))), (a 34, .inl (cI, 12, .inl ((G 2) 6))), (a 35, .inl (cI, 4, .inl ((G 2) 7))), (a 36, .inl (cI, 102, .inl ((G 2) 8))), (a 37, .inr (0, [.int ((G 2) 11 0), .int ((G 2) 11 1), .int ((G 2) 11 2), .int ((G 2) 11 3), .ref (a 38)])), (a 38, .inl (cI, 16, .inl ((G 2) 9))), (a 39, .inr (4, [.ref (a 40), .ref (a 41), .ref (a 42), .int ((G 3) 10 0), .int ((G 3) 10 1), .int ((G 3) 10 2), .ref (a 43), .ref (a 44), .ref (a 45), .ref (a 46), .ref (a 47), .int ((G 3) 10 3), .int ((G 3) 10 4), .int ((G 3) 10 5), .int ((G 3) 10 6), .ref (a 48), .int ((G 3) 10 7), .ref (a 49)])), (a 40, .inl (cI, 12, .inl ((G 3) 0))), (a 41, .inl (cI, 16, .inl ((G 3) 1))), (a 42, .inl (cI, 12, .inl ((G 3) 2))), (a 43, .inl (cI, 48, .inl ((G 3) 3))), (a 44, .inl (cI, 4, .inl ((G 3) 4))), (a 45, .inl (cI, 4, .inl ((G 3) 5))), (a 46, .inl (cI, 12, .inl ((G 3) 6))), (a 47, .inl (cI, 4, .inl ((G 3) 7))), (a 48, .inl (cI, 102, .inl ((G 3) 8))), (a 49, .inr (0, [.int ((G 3) 11 0), .int ((G 3) 11 1), .int ((G 3) 11 2), .int ((G 3) 11 3), .ref (a 50)])), (a 50, .inl (cI, 16, .inl ((G 3) 9))), (a 51, .inr (4, [.ref (a 52), .ref (a 53), .ref (a 54), .int ((G 4) 10 0), .int ((G 4) 10 1), .int ((G 4) 10 2), .ref (a 55), .ref (a 56), .ref (a 57), .ref (a 58), .ref (a 59), .int ((G 4) 10 3), .int ((G 4) 10 4), .int ((G 4) 10 5), .int ((G 4) 10 6), .ref (a 60), .int ((G 4) 10 7), .ref (a 61)])), (a 52, .inl (cI, 12, .inl ((G 4) 0))), (a 53, .inl (cI, 16, .inl ((G 4) 1))), (a 54, .inl (cI, 12, .inl ((G 4) 2))), (a 55, .inl (cI, 48, .inl ((G 4) 3))), (a 56, .inl (cI, 4, .inl ((G 4) 4))), (a 57, .inl (cI, 4, .inl ((G 4) 5))), (a 58, .inl (cI, 12, .inl ((G 4) 6))), (a 59, .inl (cI, 4, .inl ((G 4) 7))), (a 60, .inl (cI, 102, .inl ((G 4) 8))), (a 61, .inr (0, [.int ((G 4) 11 0), .int ((G 4) 11 1), .int ((G 4) 11 2), .int ((G 4) 11 3), .ref (a 62)])), (a 62, .inl (cI, 16, .inl ((G 4) 9))), (a 63, .inr (4, [.ref (a 64), .ref (a 65), .ref (a 66), .int ((G 5) 10 0), .int ((G 5) 10 1), .int ((G 5) 10 2), .ref (a 67), .ref (a 68), .ref (a 69), .ref (a 70), .ref (a 71), .int ((G 5) 10 3), .int ((G 5) 10 4), .int ((G 5) 10 5), .int ((G 5) 10 6), .ref (a 72), .int ((G 5) 10 7), .ref (a 73)])), (a 64, .inl (cI, 12, .inl ((G 5) 0))), (a 65, .inl (cI, 16, .inl ((G 5) 1))), (a 66, .inl (cI, 12, .inl ((G 5) 2))), (a 67, .inl (cI, 48, .inl ((G 5) 3))), (a 68, .inl (cI, 4, .inl ((G 5) 4))), (a 69, .inl (cI, 4, .inl ((G 5) 5))), (a 70, .inl (cI, 12, .inl ((G 5) 6))), (a 71, .inl (cI, 4, .inl ((G 5) 7))), (a 72, .inl (cI, 102, .inl ((G 5) 8))), (a 73, .inr (0, [.int ((G 5) 11 0), .int ((G 5) 11 1), .int ((G 5) 11 2), .int ((G 5) 11 3), .ref (a 74)])), (a 74, .inl (cI, 16, .inl ((G 5) 9))), (a 75, .inr (4, [.ref (a 76), .ref (a 77), .ref (a 78), .int ((G 6) 10 0), .int ((G 6) 10 1), .int ((G 6) 10 2), .ref (a 79), .ref (a 80), .ref (a 81), .ref (a 82), .ref (a 83), .int ((G 6) 10 3), .int ((G 6) 10 4), .int ((G 6) 10 5), .int ((G 6) 10 6), .ref (a 84), .int ((G 6) 10 7), .ref (a 85)])), (a 76, .inl (cI, 12, .inl ((G 6) 0))), (a 77, .inl (cI, 16, .inl ((G 6) 1))), (a 78, .inl (cI, 12, .inl ((G 6) 2))), (a 79, .inl (cI, 48, .inl ((G 6) 3))), (a 80, .inl (cI, 4, .inl ((G 6) 4))), (a 81, .inl (cI, 4, .inl ((G 6) 5))), (a 82, .inl (cI, 12, .inl ((G 6) 6))), (a 83, .inl (cI, 4, .inl ((G 6) 7))), (a 84, .inl (cI, 102, .inl ((G 6) 8))), (a 85, .inr (0, [.int ((G 6) 11 0), .int ((G 6) 11 1), .int ((G 6) 11 2), .int ((G 6) 11 3), .ref (a 86)])), (a 86, .inl (cI, 16, .inl ((G 6) 9))), (a 87, .inr (3, [.ref (a 1), .ref (a 88), .ref (a 89), .ref (a 90)])), (a 88, .inl (cI, 12, .inl ((G 8) 0))), (a 89, .inl (cI, 12, .inl ((G 8) 1))), (a 90, .inl (cI, 4, .inl ((G 8) 2))), (a 91, .inr (2, [.ref (a 92), .int ((G 9) 1 0), .int ((G 9) 1 1)])), (a 92, .inl (cC, 140, .inl ((G 9) 0)))]) (w1 := cSt (fun j => a (13 + j)) cI (G 0) ++ cSt (fun j => a (1 + j)) cI (G 0)) hP hD [13, 14, 15, 16, 17, 18, 19, 20, 21, 22, 23, 24, 1, 2, 3, 4, 5, 6, 7, 8, 9, 10, 11, 12] [0, 25, 26, 27, 28, 29, 30, 31, 32, 33, 34, 35, 36, 37, 38, 39, 40, 41, 42, 43, 44, 45, 46, 47, 48, 49, 50, 51, 52, 53, 54, 55, 56, 57, 58, 59, 60, 61, 62, 63, 64, 65, 66, 67, 68, 69, 70, 71, 72, 73, 74, 75, 76, 77, 78, 79, 80, 81, 82, 83, 84, 85, 86, 87, 88, 89, 90, 91, 92] rfl rfl (by decide) (by decide) hk1 hFc hP1 hD1
      have hP : va_P (dC, dI) vwCl (cDk a cI cC cS (va_up G 1 (G 0))) H10 := hP.sub [0, 81, 82, 83, 84, 85, 86, 87, 88, 89, 90, 91, 92, 69, 70, 71, 72, 73, 74, 75, 76, 77, 78, 79, 80, 1, 2, 3, 4, 5, 6, 7, 8, 9, 10, 11, 12, 13, 14, 15, 16, 17, 18, 19, 20, 21, 22, 23, 24, 25, 26, 27, 28, 29, 30, 31, 32, 33, 34, 35, 36, 37, 38, 39, 40, 41, 42, 43, 44, 45, 46, 47, 48, 49, 50, 51, 52, 53, 54, 55, 56, 57, 58, 59, 60, 61, 62, 63, 64, 65, 66, 67, 68] rfl
      have hD : va_D (va_A (cDk a cI cC cS G) s.heap.size) (cDk a cI cC cS (va_up G 1 (G 0))) := hD.sub [0, 81, 82, 83, 84, 85, 86, 87, 88, 89, 90, 91, 92, 69, 70, 71, 72, 73, 74, 75, 76, 77, 78, 79, 80, 1, 2, 3, 4, 5, 6, 7, 8, 9, 10, 11, 12, 13, 14, 15, 16, 17, 18, 19, 20, 21, 22, 23, 24, 25, 26, 27, 28, 29, 30, 31, 32, 33, 34, 35, 36, 37, 38, 39, 40, 41, 42, 43, 44, 45, 46, 47, 48, 49, 50, 51, 52, 53, 54, 55, 56, 57, 58, 59, 60, 61, 62, 63, 64, 65, 66, 67, 68] (by decide) rfl
      obtain ⟨Gn11, eGn11⟩ : ∃ z : GR, z = va_up G 1 (G 0) := ⟨_, rfl⟩
      rw [sLet_eq, ← eGn11] at hR
      rw [← eGn11] at hP hD
      have hG12 : WFG Gn11 := (by rw [eGn11]; exact wfg_st hG (by decide) (hG.1 0 (by decide)))
      refine lv_aload_n hx hb dX5_outputIn_31 rfl (lv_at hl 0 rfl) ?_
      refine va_get (D := (dC, dI)) (ci := 5) (v := .ref (a 13)) (C := RX5) (T := TX5) (N := 5) hx hb hts hin5 hown hK hP 0 rfl rfl 1 (by decide) (hts (.fieldLink RX5 16 "FeedDesk" "trial" "LFeedDesk$State;") (List.mem_of_getElem? (i := 1) rfl)) (fun _ h9 => h9) rfl dX5_outputIn_32 ?_
      refine lv_iload_n hx hb dX5_outputIn_35 rfl (lv_at hl 2 rfl) ?_
      have hPc : va_P (dC, dI) vwCl (cSt (fun j => a (13 + j)) cI (Gn11 1)) H10 := hP.sub [13, 14, 15, 16, 17, 18, 19, 20, 21, 22, 23, 24] rfl
      have hDc : va_D (va_A (cDk a cI cC cS G) s.heap.size) (cSt (fun j => a (13 + j)) cI (Gn11 1)) := hD.sub [13, 14, 15, 16, 17, 18, 19, 20, 21, 22, 23, 24] (by decide) rfl
      have hFc : ∀ q : Nat, va_A (cSt (fun j => a (13 + j)) cI (Gn11 1)) H10.size q → (va_A (cDk a cI cC cS G) s.heap.size) q := va_free hD hS hA [13, 14, 15, 16, 17, 18, 19, 20, 21, 22, 23, 24] rfl
      refine va_callv (va_runV (As := [.int p2]) (rest := []) ⟨hx, hb, hml, hown, hts⟩ (c_X4_goOn l dC dI cI cC cS (fun j => a (13 + j)) (Gn11 1) H10.size p2 (within_vp (n := 100) c8 (by decide)) (hG12.1 1 (by decide))) (cwV 1 hts gX5_outputIn_X4_goOn rfl rfl rfl (by decide +kernel) ⟨Nat.le_of_ble_eq_true rfl, Nat.le_of_ble_eq_true rfl⟩) (pV (q0 := 0) hK hPc hDc hN rfl rfl) rfl rfl hl.1 rfl (lv_room (Nat.le_of_ble_eq_true rfl)) dX5_outputIn_36 ⟨Nat.le_of_ble_eq_true rfl, Nat.le_of_ble_eq_true rfl⟩) hS (fun q _ h => hFc q h) hFc (fun u_13 t_13 H14 locs ht hvm hw hB hz1 hk1 hS => ?_)
      obtain ⟨hw, hens15⟩ := hw
      obtain ⟨hP1, hD1⟩ := hB
      rw [ht] at hP1
      subst hw
      obtain ⟨hP, hD⟩ := va_join (wc := cSt (fun j => a (13 + j)) cI (Gn11 1)) (wr := [(a 0, .inr (5, [.ref (a 1), .ref (a 13), .ref (a 25), .ref (a 87), .ref (a 91)])), (a 1, .inr (4, [.ref (a 2), .ref (a 3), .ref (a 4), .int ((Gn11 0) 10 0), .int ((Gn11 0) 10 1), .int ((Gn11 0) 10 2), .ref (a 5), .ref (a 6), .ref (a 7), .ref (a 8), .ref (a 9), .int ((Gn11 0) 10 3), .int ((Gn11 0) 10 4), .int ((Gn11 0) 10 5), .int ((Gn11 0) 10 6), .ref (a 10), .int ((Gn11 0) 10 7), .ref (a 11)])), (a 2, .inl (cI, 12, .inl ((Gn11 0) 0))), (a 3, .inl (cI, 16, .inl ((Gn11 0) 1))), (a 4, .inl (cI, 12, .inl ((Gn11 0) 2))), (a 5, .inl (cI, 48, .inl ((Gn11 0) 3))), (a 6, .inl (cI, 4, .inl ((Gn11 0) 4))), (a 7, .inl (cI, 4, .inl ((Gn11 0) 5))), (a 8, .inl (cI, 12, .inl ((Gn11 0) 6))), (a 9, .inl (cI, 4, .inl ((Gn11 0) 7))), (a 10, .inl (cI, 102, .inl ((Gn11 0) 8))), (a 11, .inr (0, [.int ((Gn11 0) 11 0), .int ((Gn11 0) 11 1), .int ((Gn11 0) 11 2), .int ((Gn11 0) 11 3), .ref (a 12)])), (a 12, .inl (cI, 16, .inl ((Gn11 0) 9))), (a 25, .inr (1, [.ref (a 26), .int ((Gn11 7) 0 0), .int ((Gn11 7) 0 1)])), (a 26, .inl (cS, 5, .inr (.inr (.inr (.inr (kf a)))))), (a 27, .inr (4, [.ref (a 28), .ref (a 29), .ref (a 30), .int ((Gn11 2) 10 0), .int ((Gn11 2) 10 1), .int ((Gn11 2) 10 2), .ref (a 31), .ref (a 32), .ref (a 33), .ref (a 34), .ref (a 35), .int ((Gn11 2) 10 3), .int ((Gn11 2) 10 4), .int ((Gn11 2) 10 5), .int ((Gn11 2) 10 6), .ref (a 36), .int ((Gn11 2) 10 7), .ref (a 37)])), (a 28, .inl (cI, 12, .inl ((Gn11 2) 0))), (a 29, .inl (cI, 16, .inl ((Gn11 2) 1))), (a 30, .inl (cI, 12, .inl ((Gn11 2) 2))), (a 31, .inl (cI, 48, .inl ((Gn11 2) 3))), (a 32, .inl (cI, 4, .inl ((Gn11 2) 4))), (a 33, .inl (cI, 4, .inl ((Gn11 2) 5))), (a 34, .inl (cI, 12, .inl ((Gn11 2) 6))), (a 35, .inl (cI, 4, .inl ((Gn11 2) 7))), (a 36, .inl (cI, 102, .inl ((Gn11 2) 8))), (a 37, .inr (0, [.int ((Gn11 2) 11 0), .int ((Gn11 2) 11 1), .int ((Gn11 2) 11 2), .int ((Gn11 2) 11 3), .ref (a 38)])), (a 38, .inl (cI, 16, .inl ((Gn11 2) 9))), (a 39, .inr (4, [.ref (a 40), .ref (a 41), .ref (a 42), .int ((Gn11 3) 10 0), .int ((Gn11 3) 10 1), .int ((Gn11 3) 10 2), .ref (a 43), .ref (a 44), .ref (a 45), .ref (a 46), .ref (a 47), .int ((Gn11 3) 10 3), .int ((Gn11 3) 10 4), .int ((Gn11 3) 10 5), .int ((Gn11 3) 10 6), .ref (a 48), .int ((Gn11 3) 10 7), .ref (a 49)])), (a 40, .inl (cI, 12, .inl ((Gn11 3) 0))), (a 41, .inl (cI, 16, .inl ((Gn11 3) 1))), (a 42, .inl (cI, 12, .inl ((Gn11 3) 2))), (a 43, .inl (cI, 48, .inl ((Gn11 3) 3))), (a 44, .inl (cI, 4, .inl ((Gn11 3) 4))), (a 45, .inl (cI, 4, .inl ((Gn11 3) 5))), (a 46, .inl (cI, 12, .inl ((Gn11 3) 6))), (a 47, .inl (cI, 4, .inl ((Gn11 3) 7))), (a 48, .inl (cI, 102, .inl ((Gn11 3) 8))), (a 49, .inr (0, [.int ((Gn11 3) 11 0), .int ((Gn11 3) 11 1), .int ((Gn11 3) 11 2), .int ((Gn11 3) 11 3), .ref (a 50)])), (a 50, .inl (cI, 16, .inl ((Gn11 3) 9))), (a 51, .inr (4, [.ref (a 52), .ref (a 53), .ref (a 54), .int ((Gn11 4) 10 0), .int ((Gn11 4) 10 1), .int ((Gn11 4) 10 2), .ref (a 55), .ref (a 56), .ref (a 57), .ref (a 58), .ref (a 59), .int ((Gn11 4) 10 3), .int ((Gn11 4) 10 4), .int ((Gn11 4) 10 5), .int ((Gn11 4) 10 6), .ref (a 60), .int ((Gn11 4) 10 7), .ref (a 61)])), (a 52, .inl (cI, 12, .inl ((Gn11 4) 0))), (a 53, .inl (cI, 16, .inl ((Gn11 4) 1))), (a 54, .inl (cI, 12, .inl ((Gn11 4) 2))), (a 55, .inl (cI, 48, .inl ((Gn11 4) 3))), (a 56, .inl (cI, 4, .inl ((Gn11 4) 4))), (a 57, .inl (cI, 4, .inl ((Gn11 4) 5))), (a 58, .inl (cI, 12, .inl ((Gn11 4) 6))), (a 59, .inl (cI, 4, .inl ((Gn11 4) 7))), (a 60, .inl (cI, 102, .inl ((Gn11 4) 8))), (a 61, .inr (0, [.int ((Gn11 4) 11 0), .int ((Gn11 4) 11 1), .int ((Gn11 4) 11 2), .int ((Gn11 4) 11 3), .ref (a 62)])), (a 62, .inl (cI, 16, .inl ((Gn11 4) 9))), (a 63, .inr (4, [.ref (a 64), .ref (a 65), .ref (a 66), .int ((Gn11 5) 10 0), .int ((Gn11 5) 10 1), .int ((Gn11 5) 10 2), .ref (a 67), .ref (a 68), .ref (a 69), .ref (a 70), .ref (a 71), .int ((Gn11 5) 10 3), .int ((Gn11 5) 10 4), .int ((Gn11 5) 10 5), .int ((Gn11 5) 10 6), .ref (a 72), .int ((Gn11 5) 10 7), .ref (a 73)])), (a 64, .inl (cI, 12, .inl ((Gn11 5) 0))), (a 65, .inl (cI, 16, .inl ((Gn11 5) 1))), (a 66, .inl (cI, 12, .inl ((Gn11 5) 2))), (a 67, .inl (cI, 48, .inl ((Gn11 5) 3))), (a 68, .inl (cI, 4, .inl ((Gn11 5) 4))), (a 69, .inl (cI, 4, .inl ((Gn11 5) 5))), (a 70, .inl (cI, 12, .inl ((Gn11 5) 6))), (a 71, .inl (cI, 4, .inl ((Gn11 5) 7))), (a 72, .inl (cI, 102, .inl ((Gn11 5) 8))), (a 73, .inr (0, [.int ((Gn11 5) 11 0), .int ((Gn11 5) 11 1), .int ((Gn11 5) 11 2), .int ((Gn11 5) 11 3), .ref (a 74)])), (a 74, .inl (cI, 16, .inl ((Gn11 5) 9))), (a 75, .inr (4, [.ref (a 76), .ref (a 77), .ref (a 78), .int ((Gn11 6) 10 0), .int ((Gn11 6) 10 1), .int ((Gn11 6) 10 2), .ref (a 79), .ref (a 80), .ref (a 81), .ref (a 82), .ref (a 83), .int ((Gn11 6) 10 3), .int ((Gn11 6) 10 4), .int ((Gn11 6) 10 5), .int ((Gn11 6) 10 6), .ref (a 84), .int ((Gn11 6) 10 7), .ref (a 85)])), (a 76, .inl (cI, 12, .inl ((Gn11 6) 0))), (a 77, .inl (cI, 16, .inl ((Gn11 6) 1))), (a 78, .inl (cI, 12, .inl ((Gn11 6) 2))), (a 79, .inl (cI, 48, .inl ((Gn11 6) 3))), (a 80, .inl (cI, 4, .inl ((Gn11 6) 4))), (a 81, .inl (cI, 4, .inl ((Gn11 6) 5))), (a 82, .inl (cI, 12, .inl ((Gn11 6) 6))), (a 83, .inl (cI, 4, .inl ((Gn11 6) 7))), (a 84, .inl (cI, 102, .inl ((Gn11 6) 8))), (a 85, .inr (0, [.int ((Gn11 6) 11 0), .int ((Gn11 6) 11 1), .int ((Gn11 6) 11 2), .int ((Gn11 6) 11 3), .ref (a 86)])), (a 86, .inl (cI, 16, .inl ((Gn11 6) 9))), (a 87, .inr (3, [.ref (a 1), .ref (a 88), .ref (a 89), .ref (a 90)])), (a 88, .inl (cI, 12, .inl ((Gn11 8) 0))), (a 89, .inl (cI, 12, .inl ((Gn11 8) 1))), (a 90, .inl (cI, 4, .inl ((Gn11 8) 2))), (a 91, .inr (2, [.ref (a 92), .int ((Gn11 9) 1 0), .int ((Gn11 9) 1 1)])), (a 92, .inl (cC, 140, .inl ((Gn11 9) 0)))]) (w1 := cSt (fun j => a (13 + j)) cI (f_X4_goOn (Gn11 1) p2)) hP hD [13, 14, 15, 16, 17, 18, 19, 20, 21, 22, 23, 24] [0, 1, 2, 3, 4, 5, 6, 7, 8, 9, 10, 11, 12, 25, 26, 27, 28, 29, 30, 31, 32, 33, 34, 35, 36, 37, 38, 39, 40, 41, 42, 43, 44, 45, 46, 47, 48, 49, 50, 51, 52, 53, 54, 55, 56, 57, 58, 59, 60, 61, 62, 63, 64, 65, 66, 67, 68, 69, 70, 71, 72, 73, 74, 75, 76, 77, 78, 79, 80, 81, 82, 83, 84, 85, 86, 87, 88, 89, 90, 91, 92] rfl rfl (by decide) (by decide) hk1 hFc hP1 hD1
      have hP : va_P (dC, dI) vwCl (cDk a cI cC cS (va_up Gn11 1 (f_X4_goOn (Gn11 1) p2))) H14 := hP.sub [0, 1, 2, 3, 4, 5, 6, 7, 8, 9, 10, 11, 12, 81, 82, 83, 84, 85, 86, 87, 88, 89, 90, 91, 92, 13, 14, 15, 16, 17, 18, 19, 20, 21, 22, 23, 24, 25, 26, 27, 28, 29, 30, 31, 32, 33, 34, 35, 36, 37, 38, 39, 40, 41, 42, 43, 44, 45, 46, 47, 48, 49, 50, 51, 52, 53, 54, 55, 56, 57, 58, 59, 60, 61, 62, 63, 64, 65, 66, 67, 68, 69, 70, 71, 72, 73, 74, 75, 76, 77, 78, 79, 80] rfl
      have hD : va_D (va_A (cDk a cI cC cS G) s.heap.size) (cDk a cI cC cS (va_up Gn11 1 (f_X4_goOn (Gn11 1) p2))) := hD.sub [0, 1, 2, 3, 4, 5, 6, 7, 8, 9, 10, 11, 12, 81, 82, 83, 84, 85, 86, 87, 88, 89, 90, 91, 92, 13, 14, 15, 16, 17, 18, 19, 20, 21, 22, 23, 24, 25, 26, 27, 28, 29, 30, 31, 32, 33, 34, 35, 36, 37, 38, 39, 40, 41, 42, 43, 44, 45, 46, 47, 48, 49, 50, 51, 52, 53, 54, 55, 56, 57, 58, 59, 60, 61, 62, 63, 64, 65, 66, 67, 68, 69, 70, 71, 72, 73, 74, 75, 76, 77, 78, 79, 80] (by decide) rfl
      obtain ⟨Gn16, eGn16⟩ : ∃ z : GR, z = va_up Gn11 1 (f_X4_goOn (Gn11 1) p2) := ⟨_, rfl⟩
      rw [sLet_eq, ← eGn16] at hR
      rw [← eGn16] at hP hD
      have hG17 : WFG Gn16 := (by rw [eGn16]; exact wfg_st hG12 (by decide) hens15)
      refine lv_aload_n hx hb dX5_outputIn_39 rfl (lv_at hl 0 rfl) ?_
      refine va_get (D := (dC, dI)) (ci := 5) (v := .ref (a 13)) (C := RX5) (T := TX5) (N := 5) hx hb hts hin5 hown hK hP 0 rfl rfl 1 (by decide) (hts (.fieldLink RX5 16 "FeedDesk" "trial" "LFeedDesk$State;") (List.mem_of_getElem? (i := 1) rfl)) (fun _ h9 => h9) rfl dX5_outputIn_40 ?_
      refine va_getN (D := (dC, dI)) (ci := 4) (v := .ref (a 21)) (C := RX4) (T := TX4) (N := 18) hx hb hts hin4 hown hK hP 13 rfl rfl 10 (by decide) (va_Nw.use rfl (hN.at 27 rfl)) (fun _ h9 => h9) rfl dX5_outputIn_43 ?_
      refine lv_iload_n hx hb dX5_outputIn_46 rfl (lv_at hl 1 rfl) ?_
      refine va_iald (f := (Gn16 1) 7) hx hb hK hP 21 0 rfl rfl (below_vp (n := 4) c4) dX5_outputIn_47 ?_
      exact W.iret (v := (Gn16 1) 7 p1.toNatClampNeg) hx hb hr (fun t ht hWw => ⟨⟨(Gn16 1) 7 p1.toNatClampNeg, Gn16, rfl, ⟨hR.symm.trans eR, hG17⟩, by rw [ht]; exact hP, hD⟩, hS.F ht⟩) hS.2.2 dX5_outputIn_48
    · rw [if_pos c8] at hR
      refine lv_iconst (v := (-1)) hx hb dX5_outputIn_18 (by decide) ?_
      exact W.iret (v := (-1)) hx hb hr (fun t ht hWw => ⟨⟨(-1), G, rfl, ⟨hR.symm.trans eR, hG⟩, by rw [ht]; exact hP, hD⟩, hS.F ht⟩) hS.2.2 dX5_outputIn_19
abbrev rm_X5_count : Room := { frames := 4, cells := 0, slots := 0, locals := 87 }
def f_X5_count (G : GR) (p1 : Int32) : Int32 := (if p1 = 0 then (G 0) 10 3 else (if p1 = 1 then (G 0) 10 4 else (if p1 = 2 then (G 0) 10 5 else (if p1 = 3 then (G 0) 10 6 else (if p1 = 4 then (if (f_X0_isGoingOn (G 0)) = 0 then (-99) else (G 0) 11 1) else (if p1 = 5 then (if (f_X0_isGoingOn (G 0)) = 0 then (-99) else (G 0) 11 2) else (if p1 = 6 then f_J6_bitCount_0f7a4 ((G 0) 10 7) else (if p1 = 7 then (G 0) 10 2 else (if p1 = 8 then f_X4_audibleChannels (G 0) else (if p1 = 9 then (G 7) 0 1 else (if p1 = 10 then (G 9) 1 0 else (-1))))))))))))
set_option maxHeartbeats 4000000 in
set_option maxRecDepth 100000 in
theorem c_X5_count (l : Launch) (dC : Nat → ClassId) (dI : Nat → Nat → Nat) (cI cC cS : ClassId) (a : Nat → Nat) (G : GR) (sz : Nat) (p1 : Int32) (hG : WFG G) : Met l yX5_count wsX5_count rm_X5_count (PcG (dC, dI) (tyL cI cC cS) (cDk a cI cC cS G) sz [.ref (a 0), .int p1]) (va_Qi (fun (r : Int32) (_ : Unit) => r = f_X5_count G p1) (fun _ _ => True) (va_A [] sz)) 0 0 (va_A [] sz) := by
  refine Met.ofW (cc := cX5_count) (maxL := 2) (ret := (some .int)) (by decide) rfl ?_
  intro p e s m args below meth c s₁ B hml hv
  obtain ⟨rfl, hsz, hP, hK, hD0, hN⟩ := hv
  have hx := B.exec
  have hb := B.bytes
  have hr := B.returns
  have hts := atoms_spec (ws := wsX5_count) B.pre
  have hown : s.vm.findClass RX5 = some m.cls := findClass_of_methodNamed B.named
  have hlocks := B.notSynchronized
  subst hsz
  have hA : ∀ q : Nat, s.heap.size ≤ q → (va_A [] s.heap.size) q := fun q h => Or.inr h
  have hS : va_S (va_A [] s.heap.size) s.heap s.heap [] := va_S.rf
  have hin5 : ∀ w ∈ wsX50, w ∈ wsX5_count := fun _ h => List.mem_cons_of_mem _ (List.mem_append_left _ (List.mem_append_left _ (List.mem_append_left _ (List.mem_append_left _ (List.mem_append_right _ h)))))
  have hin4 : ∀ w ∈ wsX40, w ∈ wsX5_count := fun _ h => List.mem_cons_of_mem _ (List.mem_append_left _ (List.mem_append_left _ (List.mem_append_left _ (List.mem_append_right _ h))))
  have hin0 : ∀ w ∈ wsX00, w ∈ wsX5_count := fun _ h => List.mem_cons_of_mem _ (List.mem_append_left _ (List.mem_append_left _ (List.mem_append_right _ h)))
  have hin1 : ∀ w ∈ wsX10, w ∈ wsX5_count := fun _ h => List.mem_cons_of_mem _ (List.mem_append_left _ (List.mem_append_right _ h))
  have hin2 : ∀ w ∈ wsX20, w ∈ wsX5_count := fun _ h => List.mem_cons_of_mem _ (List.mem_append_right _ h)
  have hl := lv_entry [.ref (a 0), .int p1] (n := 2) (Nat.le_of_ble_eq_true rfl)
  rw [lg_entry_eq]
  generalize (lg_sl [.ref (a 0), .int p1] ++ List.replicate (2 - (lg_sl [.ref (a 0), .int p1]).length) Slot.unset).toArray = ls at hl ⊢
  have hl : lv_has ls 2 [(0, .ref (a 0)), (1, .int p1)] := hl
  obtain ⟨R0, eR⟩ : ∃ z, z = f_X5_count G p1 := ⟨_, rfl⟩
  have hR := eR
  rw [f_X5_count] at hR
  refine lv_iload_n hx hb dX5_count_0 rfl (lv_at hl 1 rfl) ?_
  rcases Decidable.em (p1 = 0) with c1 | c1
  · rw [if_pos c1] at hR
    refine lv_tableIn (tgt := 60) hx hb dX5_count_1 (by rw [c1]; decide) (by rw [c1]; decide) (by rw [c1]; rfl) (by decide) ?_
    refine lv_aload_n hx hb dX5_count_60 rfl (lv_at hl 0 rfl) ?_
    refine va_get (D := (dC, dI)) (ci := 5) (v := .ref (a 1)) (C := RX5) (T := TX5) (N := 5) hx hb hts hin5 hown hK hP 0 rfl rfl 0 (by decide) (hts (.fieldLink RX5 12 "FeedDesk" "now" "LFeedDesk$State;") (List.mem_of_getElem? (i := 1) rfl)) (fun _ h9 => h9) rfl dX5_count_61 ?_
    refine va_getN (D := (dC, dI)) (ci := 4) (v := .int ((G 0) 10 3)) (C := RX4) (T := TX4) (N := 18) hx hb hts hin4 hown hK hP 1 rfl rfl 11 (by decide) (va_Nw.use rfl (hN.at 28 rfl)) (fun _ h9 => h9) rfl dX5_count_64 ?_
    exact W.iret (v := (G 0) 10 3) hx hb hr (fun t ht hWw => ⟨⟨(G 0) 10 3, (), rfl, hR.symm.trans eR, trivial⟩, hS.F ht⟩) hS.2.2 dX5_count_67
  · rw [if_neg c1] at hR
    rcases Decidable.em (p1 = 1) with c2 | c2
    · rw [if_pos c2] at hR
      refine lv_tableIn (tgt := 68) hx hb dX5_count_1 (by rw [c2]; decide) (by rw [c2]; decide) (by rw [c2]; rfl) (by decide) ?_
      refine lv_aload_n hx hb dX5_count_68 rfl (lv_at hl 0 rfl) ?_
      refine va_get (D := (dC, dI)) (ci := 5) (v := .ref (a 1)) (C := RX5) (T := TX5) (N := 5) hx hb hts hin5 hown hK hP 0 rfl rfl 0 (by decide) (hts (.fieldLink RX5 12 "FeedDesk" "now" "LFeedDesk$State;") (List.mem_of_getElem? (i := 1) rfl)) (fun _ h9 => h9) rfl dX5_count_69 ?_
      refine va_getN (D := (dC, dI)) (ci := 4) (v := .int ((G 0) 10 4)) (C := RX4) (T := TX4) (N := 18) hx hb hts hin4 hown hK hP 1 rfl rfl 12 (by decide) (va_Nw.use rfl (hN.at 29 rfl)) (fun _ h9 => h9) rfl dX5_count_72 ?_
      exact W.iret (v := (G 0) 10 4) hx hb hr (fun t ht hWw => ⟨⟨(G 0) 10 4, (), rfl, hR.symm.trans eR, trivial⟩, hS.F ht⟩) hS.2.2 dX5_count_75
    · rw [if_neg c2] at hR
      rcases Decidable.em (p1 = 2) with c3 | c3
      · rw [if_pos c3] at hR
        refine lv_tableIn (tgt := 76) hx hb dX5_count_1 (by rw [c3]; decide) (by rw [c3]; decide) (by rw [c3]; rfl) (by decide) ?_
        refine lv_aload_n hx hb dX5_count_76 rfl (lv_at hl 0 rfl) ?_
        refine va_get (D := (dC, dI)) (ci := 5) (v := .ref (a 1)) (C := RX5) (T := TX5) (N := 5) hx hb hts hin5 hown hK hP 0 rfl rfl 0 (by decide) (hts (.fieldLink RX5 12 "FeedDesk" "now" "LFeedDesk$State;") (List.mem_of_getElem? (i := 1) rfl)) (fun _ h9 => h9) rfl dX5_count_77 ?_
        refine va_getN (D := (dC, dI)) (ci := 4) (v := .int ((G 0) 10 5)) (C := RX4) (T := TX4) (N := 18) hx hb hts hin4 hown hK hP 1 rfl rfl 13 (by decide) (va_Nw.use rfl (hN.at 30 rfl)) (fun _ h9 => h9) rfl dX5_count_80 ?_
        exact W.iret (v := (G 0) 10 5) hx hb hr (fun t ht hWw => ⟨⟨(G 0) 10 5, (), rfl, hR.symm.trans eR, trivial⟩, hS.F ht⟩) hS.2.2 dX5_count_83
      · rw [if_neg c3] at hR
        rcases Decidable.em (p1 = 3) with c4 | c4
        · rw [if_pos c4] at hR
          refine lv_tableIn (tgt := 84) hx hb dX5_count_1 (by rw [c4]; decide) (by rw [c4]; decide) (by rw [c4]; rfl) (by decide) ?_
          refine lv_aload_n hx hb dX5_count_84 rfl (lv_at hl 0 rfl) ?_
          refine va_get (D := (dC, dI)) (ci := 5) (v := .ref (a 1)) (C := RX5) (T := TX5) (N := 5) hx hb hts hin5 hown hK hP 0 rfl rfl 0 (by decide) (hts (.fieldLink RX5 12 "FeedDesk" "now" "LFeedDesk$State;") (List.mem_of_getElem? (i := 1) rfl)) (fun _ h9 => h9) rfl dX5_count_85 ?_
          refine va_getN (D := (dC, dI)) (ci := 4) (v := .int ((G 0) 10 6)) (C := RX4) (T := TX4) (N := 18) hx hb hts hin4 hown hK hP 1 rfl rfl 14 (by decide) (va_Nw.use rfl (hN.at 31 rfl)) (fun _ h9 => h9) rfl dX5_count_88 ?_
          exact W.iret (v := (G 0) 10 6) hx hb hr (fun t ht hWw => ⟨⟨(G 0) 10 6, (), rfl, hR.symm.trans eR, trivial⟩, hS.F ht⟩) hS.2.2 dX5_count_91
        · rw [if_neg c4] at hR
          rcases Decidable.em (p1 = 4) with c5 | c5
          · rw [if_pos c5] at hR
            refine lv_tableIn (tgt := 92) hx hb dX5_count_1 (by rw [c5]; decide) (by rw [c5]; decide) (by rw [c5]; rfl) (by decide) ?_
            refine lv_aload_n hx hb dX5_count_92 rfl (lv_at hl 0 rfl) ?_
            refine va_get (D := (dC, dI)) (ci := 5) (v := .ref (a 1)) (C := RX5) (T := TX5) (N := 5) hx hb hts hin5 hown hK hP 0 rfl rfl 0 (by decide) (hts (.fieldLink RX5 12 "FeedDesk" "now" "LFeedDesk$State;") (List.mem_of_getElem? (i := 1) rfl)) (fun _ h9 => h9) rfl dX5_count_93 ?_
            refine va_getN (D := (dC, dI)) (ci := 4) (v := .ref (a 11)) (C := RX4) (T := TX4) (N := 18) hx hb hts hin4 hown hK hP 1 rfl rfl 17 (by decide) (va_Nw.use rfl (hN.at 34 rfl)) (fun _ h9 => h9) rfl dX5_count_96 ?_
            have hPc : va_P (dC, dI) vwCl (cFd (fun j => a (11 + j)) cI (G 0)) s.heap := hP.sub [11, 12] rfl
            have hDc : va_D (fun _ => True) (cFd (fun j => a (11 + j)) cI (G 0)) := hD0.sub [11, 12] (by decide) rfl
            have hFc : ∀ q : Nat, va_A [] s.heap.size q → (va_A [] s.heap.size) q := roF hS hA
            refine va_calli (va_runV (As := []) (rest := []) ⟨hx, hb, hml, hown, hts⟩ (c_X0_isGoingOn l dC dI cI cC cS (fun j => a (11 + j)) (G 0) s.heap.size) (cwV 0 hts gX5_count_X0_isGoingOn rfl rfl rfl (by decide +kernel) ⟨Nat.le_of_ble_eq_true rfl, Nat.le_of_ble_eq_true rfl⟩) (pV (q0 := 0) hK hPc hDc hN rfl rfl) rfl rfl hl.1 rfl (lv_room (Nat.le_of_ble_eq_true rfl)) dX5_count_99 ⟨Nat.le_of_ble_eq_true rfl, Nat.le_of_ble_eq_true rfl⟩) hS (fun q _ h => hFc q h) hFc (fun r_6 u_6 t_6 H7 locs ht hvm hw hB hz1 hk1 hS => ?_)
            obtain ⟨hw, hre8⟩ := hw
            subst hw
            have hP := ro_keep hP hk1
            refine lv_if_eq (tgt := 118) hx hb dX5_count_102 (by decide) (fun c9 => ?_) (fun c9 => ?_)
            · rw [if_pos c9] at hR
              refine lv_bipush (v := (-99)) hx hb dX5_count_118 (by decide) ?_
              exact W.iret (v := (-99)) hx hb hr (fun t ht hWw => ⟨⟨(-99), (), rfl, hR.symm.trans eR, trivial⟩, hS.F ht⟩) hS.2.2 dX5_count_120
            · rw [if_neg c9] at hR
              refine lv_aload_n hx hb dX5_count_105 rfl (lv_at hl 0 rfl) ?_
              refine va_get (D := (dC, dI)) (ci := 5) (v := .ref (a 1)) (C := RX5) (T := TX5) (N := 5) hx hb hts hin5 hown hK hP 0 rfl rfl 0 (by decide) (hts (.fieldLink RX5 12 "FeedDesk" "now" "LFeedDesk$State;") (List.mem_of_getElem? (i := 1) rfl)) (fun _ h9 => h9) rfl dX5_count_106 ?_
              refine va_getN (D := (dC, dI)) (ci := 4) (v := .ref (a 11)) (C := RX4) (T := TX4) (N := 18) hx hb hts hin4 hown hK hP 1 rfl rfl 17 (by decide) (va_Nw.use rfl (hN.at 34 rfl)) (fun _ h9 => h9) rfl dX5_count_109 ?_
              refine va_getN (D := (dC, dI)) (ci := 0) (v := .int ((G 0) 11 1)) (C := RX0) (T := TX0) (N := 5) hx hb hts hin0 hown hK hP 11 rfl rfl 1 (by decide) (va_Nw.use rfl (hN.at 12 rfl)) (fun _ h9 => h9) rfl dX5_count_112 ?_
              refine lv_goto (tgt := 120) hx hb dX5_count_115 (by decide) ?_
              exact W.iret (v := (G 0) 11 1) hx hb hr (fun t ht hWw => ⟨⟨(G 0) 11 1, (), rfl, hR.symm.trans eR, trivial⟩, hS.F ht⟩) hS.2.2 dX5_count_120
          · rw [if_neg c5] at hR
            rcases Decidable.em (p1 = 5) with c10 | c10
            · rw [if_pos c10] at hR
              refine lv_tableIn (tgt := 121) hx hb dX5_count_1 (by rw [c10]; decide) (by rw [c10]; decide) (by rw [c10]; rfl) (by decide) ?_
              refine lv_aload_n hx hb dX5_count_121 rfl (lv_at hl 0 rfl) ?_
              refine va_get (D := (dC, dI)) (ci := 5) (v := .ref (a 1)) (C := RX5) (T := TX5) (N := 5) hx hb hts hin5 hown hK hP 0 rfl rfl 0 (by decide) (hts (.fieldLink RX5 12 "FeedDesk" "now" "LFeedDesk$State;") (List.mem_of_getElem? (i := 1) rfl)) (fun _ h9 => h9) rfl dX5_count_122 ?_
              refine va_getN (D := (dC, dI)) (ci := 4) (v := .ref (a 11)) (C := RX4) (T := TX4) (N := 18) hx hb hts hin4 hown hK hP 1 rfl rfl 17 (by decide) (va_Nw.use rfl (hN.at 34 rfl)) (fun _ h9 => h9) rfl dX5_count_125 ?_
              have hPc : va_P (dC, dI) vwCl (cFd (fun j => a (11 + j)) cI (G 0)) s.heap := hP.sub [11, 12] rfl
              have hDc : va_D (fun _ => True) (cFd (fun j => a (11 + j)) cI (G 0)) := hD0.sub [11, 12] (by decide) rfl
              have hFc : ∀ q : Nat, va_A [] s.heap.size q → (va_A [] s.heap.size) q := roF hS hA
              refine va_calli (va_runV (As := []) (rest := []) ⟨hx, hb, hml, hown, hts⟩ (c_X0_isGoingOn l dC dI cI cC cS (fun j => a (11 + j)) (G 0) s.heap.size) (cwV 0 hts gX5_count_X0_isGoingOn rfl rfl rfl (by decide +kernel) ⟨Nat.le_of_ble_eq_true rfl, Nat.le_of_ble_eq_true rfl⟩) (pV (q0 := 0) hK hPc hDc hN rfl rfl) rfl rfl hl.1 rfl (lv_room (Nat.le_of_ble_eq_true rfl)) dX5_count_128 ⟨Nat.le_of_ble_eq_true rfl, Nat.le_of_ble_eq_true rfl⟩) hS (fun q _ h => hFc q h) hFc (fun r_11 u_11 t_11 H12 locs ht hvm hw hB hz1 hk1 hS => ?_)
              obtain ⟨hw, hre13⟩ := hw
              subst hw
              have hP := ro_keep hP hk1
              refine lv_if_eq (tgt := 147) hx hb dX5_count_131 (by decide) (fun c14 => ?_) (fun c14 => ?_)
              · rw [if_pos c14] at hR
                refine lv_bipush (v := (-99)) hx hb dX5_count_147 (by decide) ?_
                exact W.iret (v := (-99)) hx hb hr (fun t ht hWw => ⟨⟨(-99), (), rfl, hR.symm.trans eR, trivial⟩, hS.F ht⟩) hS.2.2 dX5_count_149
              · rw [if_neg c14] at hR
                refine lv_aload_n hx hb dX5_count_134 rfl (lv_at hl 0 rfl) ?_
                refine va_get (D := (dC, dI)) (ci := 5) (v := .ref (a 1)) (C := RX5) (T := TX5) (N := 5) hx hb hts hin5 hown hK hP 0 rfl rfl 0 (by decide) (hts (.fieldLink RX5 12 "FeedDesk" "now" "LFeedDesk$State;") (List.mem_of_getElem? (i := 1) rfl)) (fun _ h9 => h9) rfl dX5_count_135 ?_
                refine va_getN (D := (dC, dI)) (ci := 4) (v := .ref (a 11)) (C := RX4) (T := TX4) (N := 18) hx hb hts hin4 hown hK hP 1 rfl rfl 17 (by decide) (va_Nw.use rfl (hN.at 34 rfl)) (fun _ h9 => h9) rfl dX5_count_138 ?_
                refine va_getN (D := (dC, dI)) (ci := 0) (v := .int ((G 0) 11 2)) (C := RX0) (T := TX0) (N := 5) hx hb hts hin0 hown hK hP 11 rfl rfl 2 (by decide) (va_Nw.use rfl (hN.at 14 rfl)) (fun _ h9 => h9) rfl dX5_count_141 ?_
                refine lv_goto (tgt := 149) hx hb dX5_count_144 (by decide) ?_
                exact W.iret (v := (G 0) 11 2) hx hb hr (fun t ht hWw => ⟨⟨(G 0) 11 2, (), rfl, hR.symm.trans eR, trivial⟩, hS.F ht⟩) hS.2.2 dX5_count_149
            · rw [if_neg c10] at hR
              rcases Decidable.em (p1 = 6) with c15 | c15
              · rw [if_pos c15] at hR
                refine lv_tableIn (tgt := 150) hx hb dX5_count_1 (by rw [c15]; decide) (by rw [c15]; decide) (by rw [c15]; rfl) (by decide) ?_
                refine lv_aload_n hx hb dX5_count_150 rfl (lv_at hl 0 rfl) ?_
                refine va_get (D := (dC, dI)) (ci := 5) (v := .ref (a 1)) (C := RX5) (T := TX5) (N := 5) hx hb hts hin5 hown hK hP 0 rfl rfl 0 (by decide) (hts (.fieldLink RX5 12 "FeedDesk" "now" "LFeedDesk$State;") (List.mem_of_getElem? (i := 1) rfl)) (fun _ h9 => h9) rfl dX5_count_151 ?_
                refine va_getN (D := (dC, dI)) (ci := 4) (v := .int ((G 0) 10 7)) (C := RX4) (T := TX4) (N := 18) hx hb hts hin4 hown hK hP 1 rfl rfl 16 (by decide) (va_Nw.use rfl (hN.at 33 rfl)) (fun _ h9 => h9) rfl dX5_count_154 ?_
                have hFc : ∀ q : Nat, va_A [] s.heap.size q → (va_A [] s.heap.size) q := roF hS hA
                refine va_calli (va_runS (As := [.int ((G 0) 10 7)]) (rest := []) ⟨hx, hb, hml, hown, hts⟩ (c_J6_bitCount_0f7a4 l dC dI cI cC cS s.heap.size ((G 0) 10 7)) (va_cwS 1 hts gX5_count_J6_bitCount_0f7a4 rfl rfl rfl (by decide +kernel) ⟨Nat.le_of_ble_eq_true rfl, Nat.le_of_ble_eq_true rfl⟩) (pS hK (va_P_nil) (va_D_nil) hN) rfl rfl hl.1 rfl (lv_room (Nat.le_of_ble_eq_true rfl)) dX5_count_157 ⟨Nat.le_of_ble_eq_true rfl, Nat.le_of_ble_eq_true rfl⟩) hS (fun q _ h => hFc q h) hFc (fun r_16 u_16 t_16 H17 locs ht hvm hw hB hz1 hk1 hS => ?_)
                subst hw
                have hP := ro_keep hP hk1
                exact W.iret (v := f_J6_bitCount_0f7a4 ((G 0) 10 7)) hx hb hr (fun t ht hWw => ⟨⟨f_J6_bitCount_0f7a4 ((G 0) 10 7), (), rfl, hR.symm.trans eR, trivial⟩, hS.F ht⟩) hS.2.2 dX5_count_160
              · rw [if_neg c15] at hR
                rcases Decidable.em (p1 = 7) with c18 | c18
                · rw [if_pos c18] at hR
                  refine lv_tableIn (tgt := 161) hx hb dX5_count_1 (by rw [c18]; decide) (by rw [c18]; decide) (by rw [c18]; rfl) (by decide) ?_
                  refine lv_aload_n hx hb dX5_count_161 rfl (lv_at hl 0 rfl) ?_
                  refine va_get (D := (dC, dI)) (ci := 5) (v := .ref (a 1)) (C := RX5) (T := TX5) (N := 5) hx hb hts hin5 hown hK hP 0 rfl rfl 0 (by decide) (hts (.fieldLink RX5 12 "FeedDesk" "now" "LFeedDesk$State;") (List.mem_of_getElem? (i := 1) rfl)) (fun _ h9 => h9) rfl dX5_count_162 ?_
                  refine va_getN (D := (dC, dI)) (ci := 4) (v := .int ((G 0) 10 2)) (C := RX4) (T := TX4) (N := 18) hx hb hts hin4 hown hK hP 1 rfl rfl 5 (by decide) (va_Nw.use rfl (hN.at 19 rfl)) (fun _ h9 => h9) rfl dX5_count_165 ?_
                  exact W.iret (v := (G 0) 10 2) hx hb hr (fun t ht hWw => ⟨⟨(G 0) 10 2, (), rfl, hR.symm.trans eR, trivial⟩, hS.F ht⟩) hS.2.2 dX5_count_168
                · rw [if_neg c18] at hR
                  rcases Decidable.em (p1 = 8) with c19 | c19
                  · rw [if_pos c19] at hR
                    refine lv_tableIn (tgt := 169) hx hb dX5_count_1 (by rw [c19]; decide) (by rw [c19]; decide) (by rw [c19]; rfl) (by decide) ?_
                    refine lv_aload_n hx hb dX5_count_169 rfl (lv_at hl 0 rfl) ?_
                    refine va_get (D := (dC, dI)) (ci := 5) (v := .ref (a 1)) (C := RX5) (T := TX5) (N := 5) hx hb hts hin5 hown hK hP 0 rfl rfl 0 (by decide) (hts (.fieldLink RX5 12 "FeedDesk" "now" "LFeedDesk$State;") (List.mem_of_getElem? (i := 1) rfl)) (fun _ h9 => h9) rfl dX5_count_170 ?_
                    have hPc : va_P (dC, dI) vwCl (cSt (fun j => a (1 + j)) cI (G 0)) s.heap := hP.sub [1, 2, 3, 4, 5, 6, 7, 8, 9, 10, 11, 12] rfl
                    have hDc : va_D (fun _ => True) (cSt (fun j => a (1 + j)) cI (G 0)) := hD0.sub [1, 2, 3, 4, 5, 6, 7, 8, 9, 10, 11, 12] (by decide) rfl
                    have hFc : ∀ q : Nat, va_A [] s.heap.size q → (va_A [] s.heap.size) q := roF hS hA
                    refine va_calli (va_runV (As := []) (rest := []) ⟨hx, hb, hml, hown, hts⟩ (c_X4_audibleChannels l dC dI cI cC cS (fun j => a (1 + j)) (G 0) s.heap.size) (cwV 0 hts gX5_count_X4_audibleChannels rfl rfl rfl (by decide +kernel) ⟨Nat.le_of_ble_eq_true rfl, Nat.le_of_ble_eq_true rfl⟩) (pV (q0 := 0) hK hPc hDc hN rfl rfl) rfl rfl hl.1 rfl (lv_room (Nat.le_of_ble_eq_true rfl)) dX5_count_173 ⟨Nat.le_of_ble_eq_true rfl, Nat.le_of_ble_eq_true rfl⟩) hS (fun q _ h => hFc q h) hFc (fun r_20 u_20 t_20 H21 locs ht hvm hw hB hz1 hk1 hS => ?_)
                    subst hw
                    have hP := ro_keep hP hk1
                    exact W.iret (v := f_X4_audibleChannels (G 0)) hx hb hr (fun t ht hWw => ⟨⟨f_X4_audibleChannels (G 0), (), rfl, hR.symm.trans eR, trivial⟩, hS.F ht⟩) hS.2.2 dX5_count_176
                  · rw [if_neg c19] at hR
                    rcases Decidable.em (p1 = 9) with c22 | c22
                    · rw [if_pos c22] at hR
                      refine lv_tableIn (tgt := 177) hx hb dX5_count_1 (by rw [c22]; decide) (by rw [c22]; decide) (by rw [c22]; rfl) (by decide) ?_
                      refine lv_aload_n hx hb dX5_count_177 rfl (lv_at hl 0 rfl) ?_
                      refine va_get (D := (dC, dI)) (ci := 5) (v := .ref (a 25)) (C := RX5) (T := TX5) (N := 5) hx hb hts hin5 hown hK hP 0 rfl rfl 2 (by decide) (hts (.fieldLink RX5 22 "FeedDesk" "history" "LFeedDesk$History;") (List.mem_of_getElem? (i := 2) rfl)) (fun _ h9 => h9) rfl dX5_count_178 ?_
                      refine va_getN (D := (dC, dI)) (ci := 1) (v := .int ((G 7) 0 1)) (C := RX1) (T := TX1) (N := 3) hx hb hts hin1 hown hK hP 25 rfl rfl 2 (by decide) (va_Nw.use rfl (hN.at 35 rfl)) (fun _ h9 => h9) rfl dX5_count_181 ?_
                      exact W.iret (v := (G 7) 0 1) hx hb hr (fun t ht hWw => ⟨⟨(G 7) 0 1, (), rfl, hR.symm.trans eR, trivial⟩, hS.F ht⟩) hS.2.2 dX5_count_184
                    · rw [if_neg c22] at hR
                      rcases Decidable.em (p1 = 10) with c23 | c23
                      · rw [if_pos c23] at hR
                        refine lv_tableIn (tgt := 185) hx hb dX5_count_1 (by rw [c23]; decide) (by rw [c23]; decide) (by rw [c23]; rfl) (by decide) ?_
                        refine lv_aload_n hx hb dX5_count_185 rfl (lv_at hl 0 rfl) ?_
                        refine va_get (D := (dC, dI)) (ci := 5) (v := .ref (a 91)) (C := RX5) (T := TX5) (N := 5) hx hb hts hin5 hown hK hP 0 rfl rfl 4 (by decide) (hts (.fieldLink RX5 38 "FeedDesk" "patch" "LFeedDesk$Patch;") (List.mem_of_getElem? (i := 3) rfl)) (fun _ h9 => h9) rfl dX5_count_186 ?_
                        refine va_getN (D := (dC, dI)) (ci := 2) (v := .int ((G 9) 1 0)) (C := RX2) (T := TX2) (N := 3) hx hb hts hin2 hown hK hP 91 rfl rfl 1 (by decide) (va_Nw.use rfl (hN.at 36 rfl)) (fun _ h9 => h9) rfl dX5_count_189 ?_
                        exact W.iret (v := (G 9) 1 0) hx hb hr (fun t ht hWw => ⟨⟨(G 9) 1 0, (), rfl, hR.symm.trans eR, trivial⟩, hS.F ht⟩) hS.2.2 dX5_count_192
                      · rw [if_neg c23] at hR
                        have tz0 : ¬ p1.toInt = 0 := fun h => c1 (Int32.toInt_inj.mp (h.trans (by decide)))
                        have tz1 : ¬ p1.toInt = 1 := fun h => c2 (Int32.toInt_inj.mp (h.trans (by decide)))
                        have tz2 : ¬ p1.toInt = 2 := fun h => c3 (Int32.toInt_inj.mp (h.trans (by decide)))
                        have tz3 : ¬ p1.toInt = 3 := fun h => c4 (Int32.toInt_inj.mp (h.trans (by decide)))
                        have tz4 : ¬ p1.toInt = 4 := fun h => c5 (Int32.toInt_inj.mp (h.trans (by decide)))
                        have tz5 : ¬ p1.toInt = 5 := fun h => c10 (Int32.toInt_inj.mp (h.trans (by decide)))
                        have tz6 : ¬ p1.toInt = 6 := fun h => c15 (Int32.toInt_inj.mp (h.trans (by decide)))
                        have tz7 : ¬ p1.toInt = 7 := fun h => c18 (Int32.toInt_inj.mp (h.trans (by decide)))
                        have tz8 : ¬ p1.toInt = 8 := fun h => c19 (Int32.toInt_inj.mp (h.trans (by decide)))
                        have tz9 : ¬ p1.toInt = 9 := fun h => c22 (Int32.toInt_inj.mp (h.trans (by decide)))
                        have tz10 : ¬ p1.toInt = 10 := fun h => c23 (Int32.toInt_inj.mp (h.trans (by decide)))
                        refine lv_tableOut (tgt := 193) hx hb dX5_count_1 (by omega) (by decide) ?_
                        refine lv_iconst (v := (-1)) hx hb dX5_count_193 (by decide) ?_
                        exact W.iret (v := (-1)) hx hb hr (fun t ht hWw => ⟨⟨(-1), (), rfl, hR.symm.trans eR, trivial⟩, hS.F ht⟩) hS.2.2 dX5_count_194
abbrev rm_X5_channel : Room := { frames := 3, cells := 0, slots := 0, locals := 65 }
def f_X5_channel (G : GR) (p1 : Int32) (p2 : Int32) : Int32 := (if (f_X5_isBelow p1 12) = 0 then (-1) else (if (f_X5_isBelow p2 5) = 0 then (if p2 = 5 then f_X4_levelOf (G 0) p1 else (if p2 = 6 then (G 0) 6 p1.toNatClampNeg else (if p2 = 7 then (if (f_X0_isTouched (G 0) p1) = 0 then 0 else 1) else (if p2 = 8 then f_X4_feedBackInto (G 0) p1 else (-1))))) else f_X4_channelProperty (G 0) p1 p2))
set_option maxHeartbeats 4000000 in
set_option maxRecDepth 100000 in
theorem c_X5_channel (l : Launch) (dC : Nat → ClassId) (dI : Nat → Nat → Nat) (cI cC cS : ClassId) (a : Nat → Nat) (G : GR) (sz : Nat) (p1 : Int32) (p2 : Int32) (hG : WFG G) : Met l yX5_channel wsX5_channel rm_X5_channel (PcS (dC, dI) (tyL cI cC cS) (cDk a cI cC cS G) sz [.ref (a 0), .int p1, .int p2] (va_A [] sz)) (va_Qi (fun (r : Int32) (_ : Unit) => r = f_X5_channel G p1 p2) (fun _ _ => True) (va_A [] sz)) 0 0 (va_A [] sz) := by
  refine Met.ofW (cc := cX5_channel) (maxL := 3) (ret := (some .int)) (by decide) rfl ?_
  intro p e s m args below meth c s₁ B hml hv
  obtain ⟨rfl, hsz, hP, hK, hD0, hN, hT⟩ := hv
  have hx := B.exec
  have hb := B.bytes
  have hr := B.returns
  have hts := atoms_spec (ws := wsX5_channel) B.pre
  have hown : s.vm.findClass RX5 = some m.cls := findClass_of_methodNamed B.named
  have hlocks := B.notSynchronized
  subst hsz
  obtain ⟨⟨tc, hZc, hTc⟩, ⟨tg, hZg, hTg⟩, ⟨ks, kv, hSk, hSr⟩⟩ := id hT
  have hA : ∀ q : Nat, s.heap.size ≤ q → (va_A [] s.heap.size) q := fun q h => Or.inr h
  have hS : va_S (va_A [] s.heap.size) s.heap s.heap [] := va_S.rf
  have hin5 : ∀ w ∈ wsX50, w ∈ wsX5_channel := fun _ h => List.mem_cons_of_mem _ (List.mem_append_left _ (List.mem_append_left _ (List.mem_append_right _ h)))
  have hin4 : ∀ w ∈ wsX40, w ∈ wsX5_channel := fun _ h => List.mem_cons_of_mem _ (List.mem_append_left _ (List.mem_append_right _ h))
  have hl := lv_entry [.ref (a 0), .int p1, .int p2] (n := 3) (Nat.le_of_ble_eq_true rfl)
  rw [lg_entry_eq]
  generalize (lg_sl [.ref (a 0), .int p1, .int p2] ++ List.replicate (3 - (lg_sl [.ref (a 0), .int p1, .int p2]).length) Slot.unset).toArray = ls at hl ⊢
  have hl : lv_has ls 3 [(0, .ref (a 0)), (1, .int p1), (2, .int p2)] := hl
  obtain ⟨R0, eR⟩ : ∃ z, z = f_X5_channel G p1 p2 := ⟨_, rfl⟩
  have hR := eR
  rw [f_X5_channel] at hR
  refine lv_iload_n hx hb dX5_channel_0 rfl (lv_at hl 1 rfl) ?_
  refine lv_bipush (v := 12) hx hb dX5_channel_1 (by decide) ?_
  have hFc : ∀ q : Nat, va_A [] s.heap.size q → (va_A [] s.heap.size) q := roF hS hA
  refine va_calli (va_runS (As := [.int p1, .int 12]) (rest := []) ⟨hx, hb, hml, hown, hts⟩ (c_X5_isBelow l dC dI cI cC cS s.heap.size p1 12) (va_cwS 2 hts gX5_channel_X5_isBelow rfl rfl rfl (by decide +kernel) ⟨Nat.le_of_ble_eq_true rfl, Nat.le_of_ble_eq_true rfl⟩) (pS hK (va_P_nil) (va_D_nil) hN) rfl rfl hl.1 rfl (lv_room (Nat.le_of_ble_eq_true rfl)) dX5_channel_3 ⟨Nat.le_of_ble_eq_true rfl, Nat.le_of_ble_eq_true rfl⟩) hS (fun q _ h => hFc q h) hFc (fun r_1 u_1 t_1 H2 locs ht hvm hw hB hz1 hk1 hS => ?_)
  obtain ⟨hw, hre3⟩ := hw
  subst hw
  have hP := ro_keep hP hk1
  refine lv_if_ne (tgt := 11) hx hb dX5_channel_6 (by decide) (fun c4 => ?_) (fun c4 => ?_)
  · rw [if_neg c4] at hR
    refine lv_iload_n hx hb dX5_channel_11 rfl (lv_at hl 2 rfl) ?_
    refine va_gets hx hb hZc hS hown (hts (.fieldLink RX5 46 "FeedDesk" "CHANNEL_MOST" "[I") (List.mem_of_getElem? (i := 1) rfl)) (fun _ h9 => h9) dX5_channel_12 ?_
    refine va_tlen (v := 5) hx hb hTc hS (by decide +kernel) dX5_channel_15 ?_
    have hFc : ∀ q : Nat, va_A [] H2.size q → (va_A [] s.heap.size) q := roF hS hA
    refine va_calli (va_runS (As := [.int p2, .int 5]) (rest := []) ⟨hx, hb, hml, hown, hts⟩ (c_X5_isBelow l dC dI cI cC cS H2.size p2 5) (va_cwS 2 hts gX5_channel_X5_isBelow rfl rfl rfl (by decide +kernel) ⟨Nat.le_of_ble_eq_true rfl, Nat.le_of_ble_eq_true rfl⟩) (pS hK (va_P_nil) (va_D_nil) hN) rfl rfl hl.1 rfl (lv_room (Nat.le_of_ble_eq_true rfl)) dX5_channel_16 ⟨Nat.le_of_ble_eq_true rfl, Nat.le_of_ble_eq_true rfl⟩) hS (fun q _ h => hFc q h) hFc (fun r_5 u_5 t_5 H6 locs ht hvm hw hB hz1 hk1 hS => ?_)
    obtain ⟨hw, hre7⟩ := hw
    subst hw
    have hP := ro_keep hP hk1
    refine lv_if_eq (tgt := 32) hx hb dX5_channel_19 (by decide) (fun c8 => ?_) (fun c8 => ?_)
    · rw [if_pos c8] at hR
      refine lv_iload_n hx hb dX5_channel_32 rfl (lv_at hl 2 rfl) ?_
      rcases Decidable.em (p2 = 5) with c9 | c9
      · rw [if_pos c9] at hR
        refine lv_tableIn (tgt := 64) hx hb dX5_channel_33 (by rw [c9]; decide) (by rw [c9]; decide) (by rw [c9]; rfl) (by decide) ?_
        refine lv_aload_n hx hb dX5_channel_64 rfl (lv_at hl 0 rfl) ?_
        refine va_get (D := (dC, dI)) (ci := 5) (v := .ref (a 1)) (C := RX5) (T := TX5) (N := 5) hx hb hts hin5 hown hK hP 0 rfl rfl 0 (by decide) (hts (.fieldLink RX5 12 "FeedDesk" "now" "LFeedDesk$State;") (List.mem_of_getElem? (i := 2) rfl)) (fun _ h9 => h9) rfl dX5_channel_65 ?_
        refine lv_iload_n hx hb dX5_channel_68 rfl (lv_at hl 1 rfl) ?_
        have hPc : va_P (dC, dI) vwCl (cSt (fun j => a (1 + j)) cI (G 0)) H6 := hP.sub [1, 2, 3, 4, 5, 6, 7, 8, 9, 10, 11, 12] rfl
        have hDc : va_D (fun _ => True) (cSt (fun j => a (1 + j)) cI (G 0)) := hD0.sub [1, 2, 3, 4, 5, 6, 7, 8, 9, 10, 11, 12] (by decide) rfl
        have hFc : ∀ q : Nat, va_A [] H6.size q → (va_A [] s.heap.size) q := roF hS hA
        refine va_calli (va_runV (As := [.int p1]) (rest := []) ⟨hx, hb, hml, hown, hts⟩ (c_X4_levelOf l dC dI cI cC cS (fun j => a (1 + j)) (G 0) H6.size p1 (below_vp (n := 12) c4)) (cwV 1 hts gX5_channel_X4_levelOf rfl rfl rfl (by decide +kernel) ⟨Nat.le_of_ble_eq_true rfl, Nat.le_of_ble_eq_true rfl⟩) (pV (q0 := 0) hK hPc hDc hN rfl rfl) rfl rfl hl.1 rfl (lv_room (Nat.le_of_ble_eq_true rfl)) dX5_channel_69 ⟨Nat.le_of_ble_eq_true rfl, Nat.le_of_ble_eq_true rfl⟩) hS (fun q _ h => hFc q h) hFc (fun r_10 u_10 t_10 H11 locs ht hvm hw hB hz1 hk1 hS => ?_)
        subst hw
        have hP := ro_keep hP hk1
        exact W.iret (v := f_X4_levelOf (G 0) p1) hx hb hr (fun t ht hWw => ⟨⟨f_X4_levelOf (G 0) p1, (), rfl, hR.symm.trans eR, trivial⟩, hS.F ht⟩) hS.2.2 dX5_channel_72
      · rw [if_neg c9] at hR
        rcases Decidable.em (p2 = 6) with c12 | c12
        · rw [if_pos c12] at hR
          refine lv_tableIn (tgt := 73) hx hb dX5_channel_33 (by rw [c12]; decide) (by rw [c12]; decide) (by rw [c12]; rfl) (by decide) ?_
          refine lv_aload_n hx hb dX5_channel_73 rfl (lv_at hl 0 rfl) ?_
          refine va_get (D := (dC, dI)) (ci := 5) (v := .ref (a 1)) (C := RX5) (T := TX5) (N := 5) hx hb hts hin5 hown hK hP 0 rfl rfl 0 (by decide) (hts (.fieldLink RX5 12 "FeedDesk" "now" "LFeedDesk$State;") (List.mem_of_getElem? (i := 2) rfl)) (fun _ h9 => h9) rfl dX5_channel_74 ?_
          refine va_getN (D := (dC, dI)) (ci := 4) (v := .ref (a 8)) (C := RX4) (T := TX4) (N := 18) hx hb hts hin4 hown hK hP 1 rfl rfl 9 (by decide) (va_Nw.use rfl (hN.at 26 rfl)) (fun _ h9 => h9) rfl dX5_channel_77 ?_
          refine lv_iload_n hx hb dX5_channel_80 rfl (lv_at hl 1 rfl) ?_
          refine va_iald (f := (G 0) 6) hx hb hK hP 8 0 rfl rfl (below_vp (n := 12) c4) dX5_channel_81 ?_
          exact W.iret (v := (G 0) 6 p1.toNatClampNeg) hx hb hr (fun t ht hWw => ⟨⟨(G 0) 6 p1.toNatClampNeg, (), rfl, hR.symm.trans eR, trivial⟩, hS.F ht⟩) hS.2.2 dX5_channel_82
        · rw [if_neg c12] at hR
          rcases Decidable.em (p2 = 7) with c13 | c13
          · rw [if_pos c13] at hR
            refine lv_tableIn (tgt := 83) hx hb dX5_channel_33 (by rw [c13]; decide) (by rw [c13]; decide) (by rw [c13]; rfl) (by decide) ?_
            refine lv_aload_n hx hb dX5_channel_83 rfl (lv_at hl 0 rfl) ?_
            refine va_get (D := (dC, dI)) (ci := 5) (v := .ref (a 1)) (C := RX5) (T := TX5) (N := 5) hx hb hts hin5 hown hK hP 0 rfl rfl 0 (by decide) (hts (.fieldLink RX5 12 "FeedDesk" "now" "LFeedDesk$State;") (List.mem_of_getElem? (i := 2) rfl)) (fun _ h9 => h9) rfl dX5_channel_84 ?_
            refine va_getN (D := (dC, dI)) (ci := 4) (v := .ref (a 11)) (C := RX4) (T := TX4) (N := 18) hx hb hts hin4 hown hK hP 1 rfl rfl 17 (by decide) (va_Nw.use rfl (hN.at 34 rfl)) (fun _ h9 => h9) rfl dX5_channel_87 ?_
            refine lv_iload_n hx hb dX5_channel_90 rfl (lv_at hl 1 rfl) ?_
            have hPc : va_P (dC, dI) vwCl (cFd (fun j => a (11 + j)) cI (G 0)) H6 := hP.sub [11, 12] rfl
            have hDc : va_D (fun _ => True) (cFd (fun j => a (11 + j)) cI (G 0)) := hD0.sub [11, 12] (by decide) rfl
            have hFc : ∀ q : Nat, va_A [] H6.size q → (va_A [] s.heap.size) q := roF hS hA
            refine va_calli (va_runV (As := [.int p1]) (rest := []) ⟨hx, hb, hml, hown, hts⟩ (c_X0_isTouched l dC dI cI cC cS (fun j => a (11 + j)) (G 0) H6.size p1) (cwV 1 hts gX5_channel_X0_isTouched rfl rfl rfl (by decide +kernel) ⟨Nat.le_of_ble_eq_true rfl, Nat.le_of_ble_eq_true rfl⟩) (pV (q0 := 0) hK hPc hDc hN rfl rfl) rfl rfl hl.1 rfl (lv_room (Nat.le_of_ble_eq_true rfl)) dX5_channel_91 ⟨Nat.le_of_ble_eq_true rfl, Nat.le_of_ble_eq_true rfl⟩) hS (fun q _ h => hFc q h) hFc (fun r_14 u_14 t_14 H15 locs ht hvm hw hB hz1 hk1 hS => ?_)
            obtain ⟨hw, hre16⟩ := hw
            subst hw
            have hP := ro_keep hP hk1
            refine lv_if_eq (tgt := 101) hx hb dX5_channel_94 (by decide) (fun c17 => ?_) (fun c17 => ?_)
            · rw [if_pos c17] at hR
              refine lv_iconst (v := 0) hx hb dX5_channel_101 (by decide) ?_
              exact W.iret (v := 0) hx hb hr (fun t ht hWw => ⟨⟨0, (), rfl, hR.symm.trans eR, trivial⟩, hS.F ht⟩) hS.2.2 dX5_channel_102
            · rw [if_neg c17] at hR
              refine lv_iconst (v := 1) hx hb dX5_channel_97 (by decide) ?_
              refine lv_goto (tgt := 102) hx hb dX5_channel_98 (by decide) ?_
              exact W.iret (v := 1) hx hb hr (fun t ht hWw => ⟨⟨1, (), rfl, hR.symm.trans eR, trivial⟩, hS.F ht⟩) hS.2.2 dX5_channel_102
          · rw [if_neg c13] at hR
            rcases Decidable.em (p2 = 8) with c18 | c18
            · rw [if_pos c18] at hR
              refine lv_tableIn (tgt := 103) hx hb dX5_channel_33 (by rw [c18]; decide) (by rw [c18]; decide) (by rw [c18]; rfl) (by decide) ?_
              refine lv_aload_n hx hb dX5_channel_103 rfl (lv_at hl 0 rfl) ?_
              refine va_get (D := (dC, dI)) (ci := 5) (v := .ref (a 1)) (C := RX5) (T := TX5) (N := 5) hx hb hts hin5 hown hK hP 0 rfl rfl 0 (by decide) (hts (.fieldLink RX5 12 "FeedDesk" "now" "LFeedDesk$State;") (List.mem_of_getElem? (i := 2) rfl)) (fun _ h9 => h9) rfl dX5_channel_104 ?_
              refine lv_iload_n hx hb dX5_channel_107 rfl (lv_at hl 1 rfl) ?_
              have hPc : va_P (dC, dI) vwCl (cSt (fun j => a (1 + j)) cI (G 0)) H6 := hP.sub [1, 2, 3, 4, 5, 6, 7, 8, 9, 10, 11, 12] rfl
              have hDc : va_D (fun _ => True) (cSt (fun j => a (1 + j)) cI (G 0)) := hD0.sub [1, 2, 3, 4, 5, 6, 7, 8, 9, 10, 11, 12] (by decide) rfl
              have hFc : ∀ q : Nat, va_A [] H6.size q → (va_A [] s.heap.size) q := roF hS hA
              refine va_calli (va_runV (As := [.int p1]) (rest := []) ⟨hx, hb, hml, hown, hts⟩ (c_X4_feedBackInto l dC dI cI cC cS (fun j => a (1 + j)) (G 0) H6.size p1) (cwV 1 hts gX5_channel_X4_feedBackInto rfl rfl rfl (by decide +kernel) ⟨Nat.le_of_ble_eq_true rfl, Nat.le_of_ble_eq_true rfl⟩) (pV (q0 := 0) hK hPc hDc hN rfl rfl) rfl rfl hl.1 rfl (lv_room (Nat.le_of_ble_eq_true rfl)) dX5_channel_108 ⟨Nat.le_of_ble_eq_true rfl, Nat.le_of_ble_eq_true rfl⟩) hS (fun q _ h => hFc q h) hFc (fun r_19 u_19 t_19 H20 locs ht hvm hw hB hz1 hk1 hS => ?_)
              subst hw
              have hP := ro_keep hP hk1
              exact W.iret (v := f_X4_feedBackInto (G 0) p1) hx hb hr (fun t ht hWw => ⟨⟨f_X4_feedBackInto (G 0) p1, (), rfl, hR.symm.trans eR, trivial⟩, hS.F ht⟩) hS.2.2 dX5_channel_111
            · rw [if_neg c18] at hR
              have tz0 : ¬ p2.toInt = 5 := fun h => c9 (Int32.toInt_inj.mp (h.trans (by decide)))
              have tz1 : ¬ p2.toInt = 6 := fun h => c12 (Int32.toInt_inj.mp (h.trans (by decide)))
              have tz2 : ¬ p2.toInt = 7 := fun h => c13 (Int32.toInt_inj.mp (h.trans (by decide)))
              have tz3 : ¬ p2.toInt = 8 := fun h => c18 (Int32.toInt_inj.mp (h.trans (by decide)))
              refine lv_tableOut (tgt := 112) hx hb dX5_channel_33 (by omega) (by decide) ?_
              refine lv_iconst (v := (-1)) hx hb dX5_channel_112 (by decide) ?_
              exact W.iret (v := (-1)) hx hb hr (fun t ht hWw => ⟨⟨(-1), (), rfl, hR.symm.trans eR, trivial⟩, hS.F ht⟩) hS.2.2 dX5_channel_113
    · rw [if_neg c8] at hR
      refine lv_aload_n hx hb dX5_channel_22 rfl (lv_at hl 0 rfl) ?_
      refine va_get (D := (dC, dI)) (ci := 5) (v := .ref (a 1)) (C := RX5) (T := TX5) (N := 5) hx hb hts hin5 hown hK hP 0 rfl rfl 0 (by decide) (hts (.fieldLink RX5 12 "FeedDesk" "now" "LFeedDesk$State;") (List.mem_of_getElem? (i := 2) rfl)) (fun _ h9 => h9) rfl dX5_channel_23 ?_
      refine lv_iload_n hx hb dX5_channel_26 rfl (lv_at hl 1 rfl) ?_
      refine lv_iload_n hx hb dX5_channel_27 rfl (lv_at hl 2 rfl) ?_
      have hPc : va_P (dC, dI) vwCl (cSt (fun j => a (1 + j)) cI (G 0)) H6 := hP.sub [1, 2, 3, 4, 5, 6, 7, 8, 9, 10, 11, 12] rfl
      have hDc : va_D (fun _ => True) (cSt (fun j => a (1 + j)) cI (G 0)) := hD0.sub [1, 2, 3, 4, 5, 6, 7, 8, 9, 10, 11, 12] (by decide) rfl
      have hFc : ∀ q : Nat, va_A [] H6.size q → (va_A [] s.heap.size) q := roF hS hA
      refine va_calli (va_runV (As := [.int p1, .int p2]) (rest := []) ⟨hx, hb, hml, hown, hts⟩ (c_X4_channelProperty l dC dI cI cC cS (fun j => a (1 + j)) (G 0) H6.size p1 p2 (below_vp (n := 12) c4)) (cwV 2 hts gX5_channel_X4_channelProperty rfl rfl rfl (by decide +kernel) ⟨Nat.le_of_ble_eq_true rfl, Nat.le_of_ble_eq_true rfl⟩) (pV (q0 := 0) hK hPc hDc hN rfl rfl) rfl rfl hl.1 rfl (lv_room (Nat.le_of_ble_eq_true rfl)) dX5_channel_28 ⟨Nat.le_of_ble_eq_true rfl, Nat.le_of_ble_eq_true rfl⟩) hS (fun q _ h => hFc q h) hFc (fun r_21 u_21 t_21 H22 locs ht hvm hw hB hz1 hk1 hS => ?_)
      subst hw
      have hP := ro_keep hP hk1
      exact W.iret (v := f_X4_channelProperty (G 0) p1 p2) hx hb hr (fun t ht hWw => ⟨⟨f_X4_channelProperty (G 0) p1 p2, (), rfl, hR.symm.trans eR, trivial⟩, hS.F ht⟩) hS.2.2 dX5_channel_31
  · rw [if_pos c4] at hR
    refine lv_iconst (v := (-1)) hx hb dX5_channel_9 (by decide) ?_
    exact W.iret (v := (-1)) hx hb hr (fun t ht hWw => ⟨⟨(-1), (), rfl, hR.symm.trans eR, trivial⟩, hS.F ht⟩) hS.2.2 dX5_channel_10
abbrev rm_X5_group : Room := { frames := 2, cells := 0, slots := 0, locals := 44 }
def f_X5_group (G : GR) (p1 : Int32) (p2 : Int32) : Int32 := (if (f_X5_isBelow p1 4) = 0 then (-1) else (if (f_X5_isBelow p2 2) = 0 then (if p2 = 2 then f_X4_membersOf (G 0) p1 else (if p2 = 3 then (if (f_X0_isTouched (G 0) (12 + p1)) = 0 then 0 else 1) else (-1))) else f_X4_groupProperty (G 0) p1 p2))
set_option maxHeartbeats 4000000 in
set_option maxRecDepth 100000 in
theorem c_X5_group (l : Launch) (dC : Nat → ClassId) (dI : Nat → Nat → Nat) (cI cC cS : ClassId) (a : Nat → Nat) (G : GR) (sz : Nat) (p1 : Int32) (p2 : Int32) (hG : WFG G) : Met l yX5_group wsX5_group rm_X5_group (PcS (dC, dI) (tyL cI cC cS) (cDk a cI cC cS G) sz [.ref (a 0), .int p1, .int p2] (va_A [] sz)) (va_Qi (fun (r : Int32) (_ : Unit) => r = f_X5_group G p1 p2) (fun _ _ => True) (va_A [] sz)) 0 0 (va_A [] sz) := by
  refine Met.ofW (cc := cX5_group) (maxL := 3) (ret := (some .int)) (by decide) rfl ?_
  intro p e s m args below meth c s₁ B hml hv
  obtain ⟨rfl, hsz, hP, hK, hD0, hN, hT⟩ := hv
  have hx := B.exec
  have hb := B.bytes
  have hr := B.returns
  have hts := atoms_spec (ws := wsX5_group) B.pre
  have hown : s.vm.findClass RX5 = some m.cls := findClass_of_methodNamed B.named
  have hlocks := B.notSynchronized
  subst hsz
  obtain ⟨⟨tc, hZc, hTc⟩, ⟨tg, hZg, hTg⟩, ⟨ks, kv, hSk, hSr⟩⟩ := id hT
  have hA : ∀ q : Nat, s.heap.size ≤ q → (va_A [] s.heap.size) q := fun q h => Or.inr h
  have hS : va_S (va_A [] s.heap.size) s.heap s.heap [] := va_S.rf
  have hin5 : ∀ w ∈ wsX50, w ∈ wsX5_group := fun _ h => List.mem_cons_of_mem _ (List.mem_append_left _ (List.mem_append_left _ (List.mem_append_right _ h)))
  have hin4 : ∀ w ∈ wsX40, w ∈ wsX5_group := fun _ h => List.mem_cons_of_mem _ (List.mem_append_left _ (List.mem_append_right _ h))
  have hl := lv_entry [.ref (a 0), .int p1, .int p2] (n := 3) (Nat.le_of_ble_eq_true rfl)
  rw [lg_entry_eq]
  generalize (lg_sl [.ref (a 0), .int p1, .int p2] ++ List.replicate (3 - (lg_sl [.ref (a 0), .int p1, .int p2]).length) Slot.unset).toArray = ls at hl ⊢
  have hl : lv_has ls 3 [(0, .ref (a 0)), (1, .int p1), (2, .int p2)] := hl
  obtain ⟨R0, eR⟩ : ∃ z, z = f_X5_group G p1 p2 := ⟨_, rfl⟩
  have hR := eR
  rw [f_X5_group] at hR
  refine lv_iload_n hx hb dX5_group_0 rfl (lv_at hl 1 rfl) ?_
  refine lv_iconst (v := 4) hx hb dX5_group_1 (by decide) ?_
  have hFc : ∀ q : Nat, va_A [] s.heap.size q → (va_A [] s.heap.size) q := roF hS hA
  refine va_calli (va_runS (As := [.int p1, .int 4]) (rest := []) ⟨hx, hb, hml, hown, hts⟩ (c_X5_isBelow l dC dI cI cC cS s.heap.size p1 4) (va_cwS 2 hts gX5_group_X5_isBelow rfl rfl rfl (by decide +kernel) ⟨Nat.le_of_ble_eq_true rfl, Nat.le_of_ble_eq_true rfl⟩) (pS hK (va_P_nil) (va_D_nil) hN) rfl rfl hl.1 rfl (lv_room (Nat.le_of_ble_eq_true rfl)) dX5_group_2 ⟨Nat.le_of_ble_eq_true rfl, Nat.le_of_ble_eq_true rfl⟩) hS (fun q _ h => hFc q h) hFc (fun r_1 u_1 t_1 H2 locs ht hvm hw hB hz1 hk1 hS => ?_)
  obtain ⟨hw, hre3⟩ := hw
  subst hw
  have hP := ro_keep hP hk1
  refine lv_if_ne (tgt := 10) hx hb dX5_group_5 (by decide) (fun c4 => ?_) (fun c4 => ?_)
  · rw [if_neg c4] at hR
    refine lv_iload_n hx hb dX5_group_10 rfl (lv_at hl 2 rfl) ?_
    refine va_gets hx hb hZg hS hown (hts (.fieldLink RX5 65 "FeedDesk" "GROUP_MOST" "[I") (List.mem_of_getElem? (i := 1) rfl)) (fun _ h9 => h9) dX5_group_11 ?_
    refine va_tlen (v := 2) hx hb hTg hS (by decide +kernel) dX5_group_14 ?_
    have hFc : ∀ q : Nat, va_A [] H2.size q → (va_A [] s.heap.size) q := roF hS hA
    refine va_calli (va_runS (As := [.int p2, .int 2]) (rest := []) ⟨hx, hb, hml, hown, hts⟩ (c_X5_isBelow l dC dI cI cC cS H2.size p2 2) (va_cwS 2 hts gX5_group_X5_isBelow rfl rfl rfl (by decide +kernel) ⟨Nat.le_of_ble_eq_true rfl, Nat.le_of_ble_eq_true rfl⟩) (pS hK (va_P_nil) (va_D_nil) hN) rfl rfl hl.1 rfl (lv_room (Nat.le_of_ble_eq_true rfl)) dX5_group_15 ⟨Nat.le_of_ble_eq_true rfl, Nat.le_of_ble_eq_true rfl⟩) hS (fun q _ h => hFc q h) hFc (fun r_5 u_5 t_5 H6 locs ht hvm hw hB hz1 hk1 hS => ?_)
    obtain ⟨hw, hre7⟩ := hw
    subst hw
    have hP := ro_keep hP hk1
    refine lv_if_eq (tgt := 31) hx hb dX5_group_18 (by decide) (fun c8 => ?_) (fun c8 => ?_)
    · rw [if_pos c8] at hR
      refine lv_iload_n hx hb dX5_group_31 rfl (lv_at hl 2 rfl) ?_
      rcases Decidable.em (p2 = 2) with c9 | c9
      · rw [if_pos c9] at hR
        refine lv_lookup (off := 28) (tgt := 60) hx hb dX5_group_32 (by decide) (by rw [c9]; decide +kernel) (by decide) ?_
        refine lv_aload_n hx hb dX5_group_60 rfl (lv_at hl 0 rfl) ?_
        refine va_get (D := (dC, dI)) (ci := 5) (v := .ref (a 1)) (C := RX5) (T := TX5) (N := 5) hx hb hts hin5 hown hK hP 0 rfl rfl 0 (by decide) (hts (.fieldLink RX5 12 "FeedDesk" "now" "LFeedDesk$State;") (List.mem_of_getElem? (i := 2) rfl)) (fun _ h9 => h9) rfl dX5_group_61 ?_
        refine lv_iload_n hx hb dX5_group_64 rfl (lv_at hl 1 rfl) ?_
        have hPc : va_P (dC, dI) vwCl (cSt (fun j => a (1 + j)) cI (G 0)) H6 := hP.sub [1, 2, 3, 4, 5, 6, 7, 8, 9, 10, 11, 12] rfl
        have hDc : va_D (fun _ => True) (cSt (fun j => a (1 + j)) cI (G 0)) := hD0.sub [1, 2, 3, 4, 5, 6, 7, 8, 9, 10, 11, 12] (by decide) rfl
        have hFc : ∀ q : Nat, va_A [] H6.size q → (va_A [] s.heap.size) q := roF hS hA
        refine va_calli (va_runV (As := [.int p1]) (rest := []) ⟨hx, hb, hml, hown, hts⟩ (c_X4_membersOf l dC dI cI cC cS (fun j => a (1 + j)) (G 0) H6.size p1) (cwV 1 hts gX5_group_X4_membersOf rfl rfl rfl (by decide +kernel) ⟨Nat.le_of_ble_eq_true rfl, Nat.le_of_ble_eq_true rfl⟩) (pV (q0 := 0) hK hPc hDc hN rfl rfl) rfl rfl hl.1 rfl (lv_room (Nat.le_of_ble_eq_true rfl)) dX5_group_65 ⟨Nat.le_of_ble_eq_true rfl, Nat.le_of_ble_eq_true rfl⟩) hS (fun q _ h => hFc q h) hFc (fun r_10 u_10 t_10 H11 locs ht hvm hw hB hz1 hk1 hS => ?_)
        subst hw
        have hP := ro_keep hP hk1
        exact W.iret (v := f_X4_membersOf (G 0) p1) hx hb hr (fun t ht hWw => ⟨⟨f_X4_membersOf (G 0) p1, (), rfl, hR.symm.trans eR, trivial⟩, hS.F ht⟩) hS.2.2 dX5_group_68
      · rw [if_neg c9] at hR
        rcases Decidable.em (p2 = 3) with c12 | c12
        · rw [if_pos c12] at hR
          refine lv_lookup (off := 37) (tgt := 69) hx hb dX5_group_32 (by decide) (by rw [c12]; decide +kernel) (by decide) ?_
          refine lv_aload_n hx hb dX5_group_69 rfl (lv_at hl 0 rfl) ?_
          refine va_get (D := (dC, dI)) (ci := 5) (v := .ref (a 1)) (C := RX5) (T := TX5) (N := 5) hx hb hts hin5 hown hK hP 0 rfl rfl 0 (by decide) (hts (.fieldLink RX5 12 "FeedDesk" "now" "LFeedDesk$State;") (List.mem_of_getElem? (i := 2) rfl)) (fun _ h9 => h9) rfl dX5_group_70 ?_
          refine va_getN (D := (dC, dI)) (ci := 4) (v := .ref (a 11)) (C := RX4) (T := TX4) (N := 18) hx hb hts hin4 hown hK hP 1 rfl rfl 17 (by decide) (va_Nw.use rfl (hN.at 34 rfl)) (fun _ h9 => h9) rfl dX5_group_73 ?_
          refine lv_bipush (v := 12) hx hb dX5_group_76 (by decide) ?_
          refine lv_iload_n hx hb dX5_group_78 rfl (lv_at hl 1 rfl) ?_
          refine lv_iadd hx hb dX5_group_79 ?_
          have hPc : va_P (dC, dI) vwCl (cFd (fun j => a (11 + j)) cI (G 0)) H6 := hP.sub [11, 12] rfl
          have hDc : va_D (fun _ => True) (cFd (fun j => a (11 + j)) cI (G 0)) := hD0.sub [11, 12] (by decide) rfl
          have hFc : ∀ q : Nat, va_A [] H6.size q → (va_A [] s.heap.size) q := roF hS hA
          refine va_calli (va_runV (As := [.int (12 + p1)]) (rest := []) ⟨hx, hb, hml, hown, hts⟩ (c_X0_isTouched l dC dI cI cC cS (fun j => a (11 + j)) (G 0) H6.size (12 + p1)) (cwV 1 hts gX5_group_X0_isTouched rfl rfl rfl (by decide +kernel) ⟨Nat.le_of_ble_eq_true rfl, Nat.le_of_ble_eq_true rfl⟩) (pV (q0 := 0) hK hPc hDc hN rfl rfl) rfl rfl hl.1 rfl (lv_room (Nat.le_of_ble_eq_true rfl)) dX5_group_80 ⟨Nat.le_of_ble_eq_true rfl, Nat.le_of_ble_eq_true rfl⟩) hS (fun q _ h => hFc q h) hFc (fun r_13 u_13 t_13 H14 locs ht hvm hw hB hz1 hk1 hS => ?_)
          obtain ⟨hw, hre15⟩ := hw
          subst hw
          have hP := ro_keep hP hk1
          refine lv_if_eq (tgt := 90) hx hb dX5_group_83 (by decide) (fun c16 => ?_) (fun c16 => ?_)
          · rw [if_pos c16] at hR
            refine lv_iconst (v := 0) hx hb dX5_group_90 (by decide) ?_
            exact W.iret (v := 0) hx hb hr (fun t ht hWw => ⟨⟨0, (), rfl, hR.symm.trans eR, trivial⟩, hS.F ht⟩) hS.2.2 dX5_group_91
          · rw [if_neg c16] at hR
            refine lv_iconst (v := 1) hx hb dX5_group_86 (by decide) ?_
            refine lv_goto (tgt := 91) hx hb dX5_group_87 (by decide) ?_
            exact W.iret (v := 1) hx hb hr (fun t ht hWw => ⟨⟨1, (), rfl, hR.symm.trans eR, trivial⟩, hS.F ht⟩) hS.2.2 dX5_group_91
        · rw [if_neg c12] at hR
          refine lv_lookup (off := 60) (tgt := 92) hx hb dX5_group_32 (by decide) (by show Op.lookupswitch.offset _ _ _ = _; simp only [Array.toList]; rw [lv_osw c9 (by decide), lv_osw c12 (by decide)]; rfl) (by decide) ?_
          refine lv_iconst (v := (-1)) hx hb dX5_group_92 (by decide) ?_
          exact W.iret (v := (-1)) hx hb hr (fun t ht hWw => ⟨⟨(-1), (), rfl, hR.symm.trans eR, trivial⟩, hS.F ht⟩) hS.2.2 dX5_group_93
    · rw [if_neg c8] at hR
      refine lv_aload_n hx hb dX5_group_21 rfl (lv_at hl 0 rfl) ?_
      refine va_get (D := (dC, dI)) (ci := 5) (v := .ref (a 1)) (C := RX5) (T := TX5) (N := 5) hx hb hts hin5 hown hK hP 0 rfl rfl 0 (by decide) (hts (.fieldLink RX5 12 "FeedDesk" "now" "LFeedDesk$State;") (List.mem_of_getElem? (i := 2) rfl)) (fun _ h9 => h9) rfl dX5_group_22 ?_
      refine lv_iload_n hx hb dX5_group_25 rfl (lv_at hl 1 rfl) ?_
      refine lv_iload_n hx hb dX5_group_26 rfl (lv_at hl 2 rfl) ?_
      have hPc : va_P (dC, dI) vwCl (cSt (fun j => a (1 + j)) cI (G 0)) H6 := hP.sub [1, 2, 3, 4, 5, 6, 7, 8, 9, 10, 11, 12] rfl
      have hDc : va_D (fun _ => True) (cSt (fun j => a (1 + j)) cI (G 0)) := hD0.sub [1, 2, 3, 4, 5, 6, 7, 8, 9, 10, 11, 12] (by decide) rfl
      have hFc : ∀ q : Nat, va_A [] H6.size q → (va_A [] s.heap.size) q := roF hS hA
      refine va_calli (va_runV (As := [.int p1, .int p2]) (rest := []) ⟨hx, hb, hml, hown, hts⟩ (c_X4_groupProperty l dC dI cI cC cS (fun j => a (1 + j)) (G 0) H6.size p1 p2 (below_vp (n := 4) c4)) (cwV 2 hts gX5_group_X4_groupProperty rfl rfl rfl (by decide +kernel) ⟨Nat.le_of_ble_eq_true rfl, Nat.le_of_ble_eq_true rfl⟩) (pV (q0 := 0) hK hPc hDc hN rfl rfl) rfl rfl hl.1 rfl (lv_room (Nat.le_of_ble_eq_true rfl)) dX5_group_27 ⟨Nat.le_of_ble_eq_true rfl, Nat.le_of_ble_eq_true rfl⟩) hS (fun q _ h => hFc q h) hFc (fun r_17 u_17 t_17 H18 locs ht hvm hw hB hz1 hk1 hS => ?_)
      subst hw
      have hP := ro_keep hP hk1
      exact W.iret (v := f_X4_groupProperty (G 0) p1 p2) hx hb hr (fun t ht hWw => ⟨⟨f_X4_groupProperty (G 0) p1 p2, (), rfl, hR.symm.trans eR, trivial⟩, hS.F ht⟩) hS.2.2 dX5_group_30
  · rw [if_pos c4] at hR
    refine lv_iconst (v := (-1)) hx hb dX5_group_8 (by decide) ?_
    exact W.iret (v := (-1)) hx hb hr (fun t ht hWw => ⟨⟨(-1), (), rfl, hR.symm.trans eR, trivial⟩, hS.F ht⟩) hS.2.2 dX5_group_9
abbrev rm_X5_feed : Room := { frames := 5, cells := 0, slots := 0, locals := 110 }
def f_X5_feed (G : GR) (p1 : Int32) (p2 : Int32) : Int32 := (if (f_X5_isBelow p1 4) = 0 then (-1) else (if p2 = 0 then (G 0) 4 p1.toNatClampNeg else (if p2 = 1 then (if 0 ≤ ((G 0) 5 p1.toNatClampNeg) then (G 0) 5 p1.toNatClampNeg else (-99)) else (if p2 = 2 then (G 0) 7 p1.toNatClampNeg else (if p2 = 3 then f_X4_channelsReaching (G 0) p1 else (-1))))))
set_option maxHeartbeats 4000000 in
set_option maxRecDepth 100000 in
theorem c_X5_feed (l : Launch) (dC : Nat → ClassId) (dI : Nat → Nat → Nat) (cI cC cS : ClassId) (a : Nat → Nat) (G : GR) (sz : Nat) (p1 : Int32) (p2 : Int32) (hG : WFG G) : Met l yX5_feed wsX5_feed rm_X5_feed (PcG (dC, dI) (tyL cI cC cS) (cDk a cI cC cS G) sz [.ref (a 0), .int p1, .int p2]) (va_Qi (fun (r : Int32) (_ : Unit) => r = f_X5_feed G p1 p2) (fun _ _ => True) (va_A [] sz)) 0 0 (va_A [] sz) := by
  refine Met.ofW (cc := cX5_feed) (maxL := 3) (ret := (some .int)) (by decide) rfl ?_
  intro p e s m args below meth c s₁ B hml hv
  obtain ⟨rfl, hsz, hP, hK, hD0, hN⟩ := hv
  have hx := B.exec
  have hb := B.bytes
  have hr := B.returns
  have hts := atoms_spec (ws := wsX5_feed) B.pre
  have hown : s.vm.findClass RX5 = some m.cls := findClass_of_methodNamed B.named
  have hlocks := B.notSynchronized
  subst hsz
  have hA : ∀ q : Nat, s.heap.size ≤ q → (va_A [] s.heap.size) q := fun q h => Or.inr h
  have hS : va_S (va_A [] s.heap.size) s.heap s.heap [] := va_S.rf
  have hin5 : ∀ w ∈ wsX50, w ∈ wsX5_feed := fun _ h => List.mem_cons_of_mem _ (List.mem_append_left _ (List.mem_append_right _ h))
  have hin4 : ∀ w ∈ wsX40, w ∈ wsX5_feed := fun _ h => List.mem_cons_of_mem _ (List.mem_append_right _ h)
  have hl := lv_entry [.ref (a 0), .int p1, .int p2] (n := 3) (Nat.le_of_ble_eq_true rfl)
  rw [lg_entry_eq]
  generalize (lg_sl [.ref (a 0), .int p1, .int p2] ++ List.replicate (3 - (lg_sl [.ref (a 0), .int p1, .int p2]).length) Slot.unset).toArray = ls at hl ⊢
  have hl : lv_has ls 3 [(0, .ref (a 0)), (1, .int p1), (2, .int p2)] := hl
  obtain ⟨R0, eR⟩ : ∃ z, z = f_X5_feed G p1 p2 := ⟨_, rfl⟩
  have hR := eR
  rw [f_X5_feed] at hR
  refine lv_iload_n hx hb dX5_feed_0 rfl (lv_at hl 1 rfl) ?_
  refine lv_iconst (v := 4) hx hb dX5_feed_1 (by decide) ?_
  have hFc : ∀ q : Nat, va_A [] s.heap.size q → (va_A [] s.heap.size) q := roF hS hA
  refine va_calli (va_runS (As := [.int p1, .int 4]) (rest := []) ⟨hx, hb, hml, hown, hts⟩ (c_X5_isBelow l dC dI cI cC cS s.heap.size p1 4) (va_cwS 2 hts gX5_feed_X5_isBelow rfl rfl rfl (by decide +kernel) ⟨Nat.le_of_ble_eq_true rfl, Nat.le_of_ble_eq_true rfl⟩) (pS hK (va_P_nil) (va_D_nil) hN) rfl rfl hl.1 rfl (lv_room (Nat.le_of_ble_eq_true rfl)) dX5_feed_2 ⟨Nat.le_of_ble_eq_true rfl, Nat.le_of_ble_eq_true rfl⟩) hS (fun q _ h => hFc q h) hFc (fun r_1 u_1 t_1 H2 locs ht hvm hw hB hz1 hk1 hS => ?_)
  obtain ⟨hw, hre3⟩ := hw
  subst hw
  have hP := ro_keep hP hk1
  refine lv_if_ne (tgt := 10) hx hb dX5_feed_5 (by decide) (fun c4 => ?_) (fun c4 => ?_)
  · rw [if_neg c4] at hR
    refine lv_iload_n hx hb dX5_feed_10 rfl (lv_at hl 2 rfl) ?_
    rcases Decidable.em (p2 = 0) with c5 | c5
    · rw [if_pos c5] at hR
      refine lv_tableIn (tgt := 40) hx hb dX5_feed_11 (by rw [c5]; decide) (by rw [c5]; decide) (by rw [c5]; rfl) (by decide) ?_
      refine lv_aload_n hx hb dX5_feed_40 rfl (lv_at hl 0 rfl) ?_
      refine va_get (D := (dC, dI)) (ci := 5) (v := .ref (a 1)) (C := RX5) (T := TX5) (N := 5) hx hb hts hin5 hown hK hP 0 rfl rfl 0 (by decide) (hts (.fieldLink RX5 12 "FeedDesk" "now" "LFeedDesk$State;") (List.mem_of_getElem? (i := 1) rfl)) (fun _ h9 => h9) rfl dX5_feed_41 ?_
      refine va_getN (D := (dC, dI)) (ci := 4) (v := .ref (a 6)) (C := RX4) (T := TX4) (N := 18) hx hb hts hin4 hown hK hP 1 rfl rfl 7 (by decide) (va_Nw.use rfl (hN.at 23 rfl)) (fun _ h9 => h9) rfl dX5_feed_44 ?_
      refine lv_iload_n hx hb dX5_feed_47 rfl (lv_at hl 1 rfl) ?_
      refine va_iald (f := (G 0) 4) hx hb hK hP 6 0 rfl rfl (below_vp (n := 4) c4) dX5_feed_48 ?_
      exact W.iret (v := (G 0) 4 p1.toNatClampNeg) hx hb hr (fun t ht hWw => ⟨⟨(G 0) 4 p1.toNatClampNeg, (), rfl, hR.symm.trans eR, trivial⟩, hS.F ht⟩) hS.2.2 dX5_feed_49
    · rw [if_neg c5] at hR
      rcases Decidable.em (p2 = 1) with c6 | c6
      · rw [if_pos c6] at hR
        refine lv_tableIn (tgt := 50) hx hb dX5_feed_11 (by rw [c6]; decide) (by rw [c6]; decide) (by rw [c6]; rfl) (by decide) ?_
        refine lv_aload_n hx hb dX5_feed_50 rfl (lv_at hl 0 rfl) ?_
        refine va_get (D := (dC, dI)) (ci := 5) (v := .ref (a 1)) (C := RX5) (T := TX5) (N := 5) hx hb hts hin5 hown hK hP 0 rfl rfl 0 (by decide) (hts (.fieldLink RX5 12 "FeedDesk" "now" "LFeedDesk$State;") (List.mem_of_getElem? (i := 1) rfl)) (fun _ h9 => h9) rfl dX5_feed_51 ?_
        refine va_getN (D := (dC, dI)) (ci := 4) (v := .ref (a 7)) (C := RX4) (T := TX4) (N := 18) hx hb hts hin4 hown hK hP 1 rfl rfl 8 (by decide) (va_Nw.use rfl (hN.at 25 rfl)) (fun _ h9 => h9) rfl dX5_feed_54 ?_
        refine lv_iload_n hx hb dX5_feed_57 rfl (lv_at hl 1 rfl) ?_
        refine va_iald (f := (G 0) 5) hx hb hK hP 7 0 rfl rfl (below_vp (n := 4) c4) dX5_feed_58 ?_
        refine lv_if_ge (tgt := 67) hx hb dX5_feed_59 (by decide) (fun c7 => ?_) (fun c7 => ?_)
        · rw [if_pos c7] at hR
          refine lv_aload_n hx hb dX5_feed_67 rfl (lv_at hl 0 rfl) ?_
          refine va_get (D := (dC, dI)) (ci := 5) (v := .ref (a 1)) (C := RX5) (T := TX5) (N := 5) hx hb hts hin5 hown hK hP 0 rfl rfl 0 (by decide) (hts (.fieldLink RX5 12 "FeedDesk" "now" "LFeedDesk$State;") (List.mem_of_getElem? (i := 1) rfl)) (fun _ h9 => h9) rfl dX5_feed_68 ?_
          refine va_getN (D := (dC, dI)) (ci := 4) (v := .ref (a 7)) (C := RX4) (T := TX4) (N := 18) hx hb hts hin4 hown hK hP 1 rfl rfl 8 (by decide) (va_Nw.use rfl (hN.at 25 rfl)) (fun _ h9 => h9) rfl dX5_feed_71 ?_
          refine lv_iload_n hx hb dX5_feed_74 rfl (lv_at hl 1 rfl) ?_
          refine va_iald (f := (G 0) 5) hx hb hK hP 7 0 rfl rfl (below_vp (n := 4) c4) dX5_feed_75 ?_
          exact W.iret (v := (G 0) 5 p1.toNatClampNeg) hx hb hr (fun t ht hWw => ⟨⟨(G 0) 5 p1.toNatClampNeg, (), rfl, hR.symm.trans eR, trivial⟩, hS.F ht⟩) hS.2.2 dX5_feed_76
        · rw [if_neg c7] at hR
          refine lv_bipush (v := (-99)) hx hb dX5_feed_62 (by decide) ?_
          refine lv_goto (tgt := 76) hx hb dX5_feed_64 (by decide) ?_
          exact W.iret (v := (-99)) hx hb hr (fun t ht hWw => ⟨⟨(-99), (), rfl, hR.symm.trans eR, trivial⟩, hS.F ht⟩) hS.2.2 dX5_feed_76
      · rw [if_neg c6] at hR
        rcases Decidable.em (p2 = 2) with c8 | c8
        · rw [if_pos c8] at hR
          refine lv_tableIn (tgt := 77) hx hb dX5_feed_11 (by rw [c8]; decide) (by rw [c8]; decide) (by rw [c8]; rfl) (by decide) ?_
          refine lv_aload_n hx hb dX5_feed_77 rfl (lv_at hl 0 rfl) ?_
          refine va_get (D := (dC, dI)) (ci := 5) (v := .ref (a 1)) (C := RX5) (T := TX5) (N := 5) hx hb hts hin5 hown hK hP 0 rfl rfl 0 (by decide) (hts (.fieldLink RX5 12 "FeedDesk" "now" "LFeedDesk$State;") (List.mem_of_getElem? (i := 1) rfl)) (fun _ h9 => h9) rfl dX5_feed_78 ?_
          refine va_getN (D := (dC, dI)) (ci := 4) (v := .ref (a 9)) (C := RX4) (T := TX4) (N := 18) hx hb hts hin4 hown hK hP 1 rfl rfl 10 (by decide) (va_Nw.use rfl (hN.at 27 rfl)) (fun _ h9 => h9) rfl dX5_feed_81 ?_
          refine lv_iload_n hx hb dX5_feed_84 rfl (lv_at hl 1 rfl) ?_
          refine va_iald (f := (G 0) 7) hx hb hK hP 9 0 rfl rfl (below_vp (n := 4) c4) dX5_feed_85 ?_
          exact W.iret (v := (G 0) 7 p1.toNatClampNeg) hx hb hr (fun t ht hWw => ⟨⟨(G 0) 7 p1.toNatClampNeg, (), rfl, hR.symm.trans eR, trivial⟩, hS.F ht⟩) hS.2.2 dX5_feed_86
        · rw [if_neg c8] at hR
          rcases Decidable.em (p2 = 3) with c9 | c9
          · rw [if_pos c9] at hR
            refine lv_tableIn (tgt := 87) hx hb dX5_feed_11 (by rw [c9]; decide) (by rw [c9]; decide) (by rw [c9]; rfl) (by decide) ?_
            refine lv_aload_n hx hb dX5_feed_87 rfl (lv_at hl 0 rfl) ?_
            refine va_get (D := (dC, dI)) (ci := 5) (v := .ref (a 1)) (C := RX5) (T := TX5) (N := 5) hx hb hts hin5 hown hK hP 0 rfl rfl 0 (by decide) (hts (.fieldLink RX5 12 "FeedDesk" "now" "LFeedDesk$State;") (List.mem_of_getElem? (i := 1) rfl)) (fun _ h9 => h9) rfl dX5_feed_88 ?_
            refine lv_iload_n hx hb dX5_feed_91 rfl (lv_at hl 1 rfl) ?_
            have hPc : va_P (dC, dI) vwCl (cSt (fun j => a (1 + j)) cI (G 0)) H2 := hP.sub [1, 2, 3, 4, 5, 6, 7, 8, 9, 10, 11, 12] rfl
            have hDc : va_D (fun _ => True) (cSt (fun j => a (1 + j)) cI (G 0)) := hD0.sub [1, 2, 3, 4, 5, 6, 7, 8, 9, 10, 11, 12] (by decide) rfl
            have hFc : ∀ q : Nat, va_A [] H2.size q → (va_A [] s.heap.size) q := roF hS hA
            refine va_calli (va_runV (As := [.int p1]) (rest := []) ⟨hx, hb, hml, hown, hts⟩ (c_X4_channelsReaching l dC dI cI cC cS (fun j => a (1 + j)) (G 0) H2.size p1 (below_vp (n := 4) c4)) (cwV 1 hts gX5_feed_X4_channelsReaching rfl rfl rfl (by decide +kernel) ⟨Nat.le_of_ble_eq_true rfl, Nat.le_of_ble_eq_true rfl⟩) (pV (q0 := 0) hK hPc hDc hN rfl rfl) rfl rfl hl.1 rfl (lv_room (Nat.le_of_ble_eq_true rfl)) dX5_feed_92 ⟨Nat.le_of_ble_eq_true rfl, Nat.le_of_ble_eq_true rfl⟩) hS (fun q _ h => hFc q h) hFc (fun r_10 u_10 t_10 H11 locs ht hvm hw hB hz1 hk1 hS => ?_)
            subst hw
            have hP := ro_keep hP hk1
            exact W.iret (v := f_X4_channelsReaching (G 0) p1) hx hb hr (fun t ht hWw => ⟨⟨f_X4_channelsReaching (G 0) p1, (), rfl, hR.symm.trans eR, trivial⟩, hS.F ht⟩) hS.2.2 dX5_feed_95
          · rw [if_neg c9] at hR
            have tz0 : ¬ p2.toInt = 0 := fun h => c5 (Int32.toInt_inj.mp (h.trans (by decide)))
            have tz1 : ¬ p2.toInt = 1 := fun h => c6 (Int32.toInt_inj.mp (h.trans (by decide)))
            have tz2 : ¬ p2.toInt = 2 := fun h => c8 (Int32.toInt_inj.mp (h.trans (by decide)))
            have tz3 : ¬ p2.toInt = 3 := fun h => c9 (Int32.toInt_inj.mp (h.trans (by decide)))
            refine lv_tableOut (tgt := 96) hx hb dX5_feed_11 (by omega) (by decide) ?_
            refine lv_iconst (v := (-1)) hx hb dX5_feed_96 (by decide) ?_
            exact W.iret (v := (-1)) hx hb hr (fun t ht hWw => ⟨⟨(-1), (), rfl, hR.symm.trans eR, trivial⟩, hS.F ht⟩) hS.2.2 dX5_feed_97
  · rw [if_pos c4] at hR
    refine lv_iconst (v := (-1)) hx hb dX5_feed_8 (by decide) ?_
    exact W.iret (v := (-1)) hx hb hr (fun t ht hWw => ⟨⟨(-1), (), rfl, hR.symm.trans eR, trivial⟩, hS.F ht⟩) hS.2.2 dX5_feed_9
abbrev rm_X5_send : Room := { frames := 4, cells := 0, slots := 0, locals := 87 }
def f_X5_send (G : GR) (p1 : Int32) (p2 : Int32) (p3 : Int32) : Int32 := (if (f_X5_isBelow p1 4) = 0 then (-1) else (if (f_X5_isBelow p2 12) = 0 then (-1) else (if p3 = 0 then (G 0) 3 (f_X5_sendIndex p1 p2).toNatClampNeg else (if p3 = 1 then f_X4_gainOf (G 0) p1 p2 else (-1)))))
set_option maxHeartbeats 4000000 in
set_option maxRecDepth 100000 in
theorem c_X5_send (l : Launch) (dC : Nat → ClassId) (dI : Nat → Nat → Nat) (cI cC cS : ClassId) (a : Nat → Nat) (G : GR) (sz : Nat) (p1 : Int32) (p2 : Int32) (p3 : Int32) (hG : WFG G) : Met l yX5_send wsX5_send rm_X5_send (PcG (dC, dI) (tyL cI cC cS) (cDk a cI cC cS G) sz [.ref (a 0), .int p1, .int p2, .int p3]) (va_Qi (fun (r : Int32) (_ : Unit) => r = f_X5_send G p1 p2 p3) (fun _ _ => True) (va_A [] sz)) 0 0 (va_A [] sz) := by
  refine Met.ofW (cc := cX5_send) (maxL := 4) (ret := (some .int)) (by decide) rfl ?_
  intro p e s m args below meth c s₁ B hml hv
  obtain ⟨rfl, hsz, hP, hK, hD0, hN⟩ := hv
  have hx := B.exec
  have hb := B.bytes
  have hr := B.returns
  have hts := atoms_spec (ws := wsX5_send) B.pre
  have hown : s.vm.findClass RX5 = some m.cls := findClass_of_methodNamed B.named
  have hlocks := B.notSynchronized
  subst hsz
  have hA : ∀ q : Nat, s.heap.size ≤ q → (va_A [] s.heap.size) q := fun q h => Or.inr h
  have hS : va_S (va_A [] s.heap.size) s.heap s.heap [] := va_S.rf
  have hin5 : ∀ w ∈ wsX50, w ∈ wsX5_send := fun _ h => List.mem_cons_of_mem _ (List.mem_append_left _ (List.mem_append_right _ h))
  have hin4 : ∀ w ∈ wsX40, w ∈ wsX5_send := fun _ h => List.mem_cons_of_mem _ (List.mem_append_right _ h)
  have hl := lv_entry [.ref (a 0), .int p1, .int p2, .int p3] (n := 4) (Nat.le_of_ble_eq_true rfl)
  rw [lg_entry_eq]
  generalize (lg_sl [.ref (a 0), .int p1, .int p2, .int p3] ++ List.replicate (4 - (lg_sl [.ref (a 0), .int p1, .int p2, .int p3]).length) Slot.unset).toArray = ls at hl ⊢
  have hl : lv_has ls 4 [(0, .ref (a 0)), (1, .int p1), (2, .int p2), (3, .int p3)] := hl
  obtain ⟨R0, eR⟩ : ∃ z, z = f_X5_send G p1 p2 p3 := ⟨_, rfl⟩
  have hR := eR
  rw [f_X5_send] at hR
  refine lv_iload_n hx hb dX5_send_0 rfl (lv_at hl 1 rfl) ?_
  refine lv_iconst (v := 4) hx hb dX5_send_1 (by decide) ?_
  have hFc : ∀ q : Nat, va_A [] s.heap.size q → (va_A [] s.heap.size) q := roF hS hA
  refine va_calli (va_runS (As := [.int p1, .int 4]) (rest := []) ⟨hx, hb, hml, hown, hts⟩ (c_X5_isBelow l dC dI cI cC cS s.heap.size p1 4) (va_cwS 2 hts gX5_send_X5_isBelow rfl rfl rfl (by decide +kernel) ⟨Nat.le_of_ble_eq_true rfl, Nat.le_of_ble_eq_true rfl⟩) (pS hK (va_P_nil) (va_D_nil) hN) rfl rfl hl.1 rfl (lv_room (Nat.le_of_ble_eq_true rfl)) dX5_send_2 ⟨Nat.le_of_ble_eq_true rfl, Nat.le_of_ble_eq_true rfl⟩) hS (fun q _ h => hFc q h) hFc (fun r_1 u_1 t_1 H2 locs ht hvm hw hB hz1 hk1 hS => ?_)
  obtain ⟨hw, hre3⟩ := hw
  subst hw
  have hP := ro_keep hP hk1
  refine lv_if_eq (tgt := 17) hx hb dX5_send_5 (by decide) (fun c4 => ?_) (fun c4 => ?_)
  · rw [if_pos c4] at hR
    refine lv_iconst (v := (-1)) hx hb dX5_send_17 (by decide) ?_
    exact W.iret (v := (-1)) hx hb hr (fun t ht hWw => ⟨⟨(-1), (), rfl, hR.symm.trans eR, trivial⟩, hS.F ht⟩) hS.2.2 dX5_send_18
  · rw [if_neg c4] at hR
    obtain ⟨ip1, hip1, ep1⟩ := vp_in_of (below_vp (n := 4) c4) (by decide)
    refine lv_iload_n hx hb dX5_send_8 rfl (lv_at hl 2 rfl) ?_
    refine lv_bipush (v := 12) hx hb dX5_send_9 (by decide) ?_
    have hFc : ∀ q : Nat, va_A [] H2.size q → (va_A [] s.heap.size) q := roF hS hA
    refine va_calli (va_runS (As := [.int p2, .int 12]) (rest := []) ⟨hx, hb, hml, hown, hts⟩ (c_X5_isBelow l dC dI cI cC cS H2.size p2 12) (va_cwS 2 hts gX5_send_X5_isBelow rfl rfl rfl (by decide +kernel) ⟨Nat.le_of_ble_eq_true rfl, Nat.le_of_ble_eq_true rfl⟩) (pS hK (va_P_nil) (va_D_nil) hN) rfl rfl hl.1 rfl (lv_room (Nat.le_of_ble_eq_true rfl)) dX5_send_11 ⟨Nat.le_of_ble_eq_true rfl, Nat.le_of_ble_eq_true rfl⟩) hS (fun q _ h => hFc q h) hFc (fun r_5 u_5 t_5 H6 locs ht hvm hw hB hz1 hk1 hS => ?_)
    obtain ⟨hw, hre7⟩ := hw
    subst hw
    have hP := ro_keep hP hk1
    refine lv_if_ne (tgt := 19) hx hb dX5_send_14 (by decide) (fun c8 => ?_) (fun c8 => ?_)
    · rw [if_neg c8] at hR
      obtain ⟨ip2, hip2, ep2⟩ := vp_in_of (below_vp (n := 12) c8) (by decide)
      refine lv_iload_n hx hb dX5_send_19 rfl (lv_at hl 3 rfl) ?_
      rcases Decidable.em (p3 = 0) with c9 | c9
      · rw [if_pos c9] at hR
        refine lv_lookup (off := 28) (tgt := 48) hx hb dX5_send_20 (by decide) (by rw [c9]; decide +kernel) (by decide) ?_
        refine lv_aload_n hx hb dX5_send_48 rfl (lv_at hl 0 rfl) ?_
        refine va_get (D := (dC, dI)) (ci := 5) (v := .ref (a 1)) (C := RX5) (T := TX5) (N := 5) hx hb hts hin5 hown hK hP 0 rfl rfl 0 (by decide) (hts (.fieldLink RX5 12 "FeedDesk" "now" "LFeedDesk$State;") (List.mem_of_getElem? (i := 1) rfl)) (fun _ h9 => h9) rfl dX5_send_49 ?_
        refine va_getN (D := (dC, dI)) (ci := 4) (v := .ref (a 5)) (C := RX4) (T := TX4) (N := 18) hx hb hts hin4 hown hK hP 1 rfl rfl 6 (by decide) (va_Nw.use rfl (hN.at 20 rfl)) (fun _ h9 => h9) rfl dX5_send_52 ?_
        refine lv_iload_n hx hb dX5_send_55 rfl (lv_at hl 1 rfl) ?_
        refine lv_iload_n hx hb dX5_send_56 rfl (lv_at hl 2 rfl) ?_
        have hFc : ∀ q : Nat, va_A [] H6.size q → (va_A [] s.heap.size) q := roF hS hA
        refine va_calli (va_runS (As := [.int p1, .int p2]) (rest := [.ref (a 5)]) ⟨hx, hb, hml, hown, hts⟩ (c_X5_sendIndex l dC dI cI cC cS H6.size p1 p2) (va_cwS 2 hts gX5_send_X5_sendIndex rfl rfl rfl (by decide +kernel) ⟨Nat.le_of_ble_eq_true rfl, Nat.le_of_ble_eq_true rfl⟩) (pS hK (va_P_nil) (va_D_nil) hN) rfl rfl hl.1 rfl (lv_room (Nat.le_of_ble_eq_true rfl)) dX5_send_57 ⟨Nat.le_of_ble_eq_true rfl, Nat.le_of_ble_eq_true rfl⟩) hS (fun q _ h => hFc q h) hFc (fun r_10 u_10 t_10 H11 locs ht hvm hw hB hz1 hk1 hS => ?_)
        subst hw
        have hP := ro_keep hP hk1
        refine va_iald (f := (G 0) 3) hx hb hK hP 5 0 rfl rfl (by rw [ep1, ep2]; exact vp_of_B (ix_3 ip1 hip1 ip2 hip2)) dX5_send_60 ?_
        exact W.iret (v := (G 0) 3 (f_X5_sendIndex p1 p2).toNatClampNeg) hx hb hr (fun t ht hWw => ⟨⟨(G 0) 3 (f_X5_sendIndex p1 p2).toNatClampNeg, (), rfl, hR.symm.trans eR, trivial⟩, hS.F ht⟩) hS.2.2 dX5_send_61
      · rw [if_neg c9] at hR
        rcases Decidable.em (p3 = 1) with c12 | c12
        · rw [if_pos c12] at hR
          refine lv_lookup (off := 42) (tgt := 62) hx hb dX5_send_20 (by decide) (by rw [c12]; decide +kernel) (by decide) ?_
          refine lv_aload_n hx hb dX5_send_62 rfl (lv_at hl 0 rfl) ?_
          refine va_get (D := (dC, dI)) (ci := 5) (v := .ref (a 1)) (C := RX5) (T := TX5) (N := 5) hx hb hts hin5 hown hK hP 0 rfl rfl 0 (by decide) (hts (.fieldLink RX5 12 "FeedDesk" "now" "LFeedDesk$State;") (List.mem_of_getElem? (i := 1) rfl)) (fun _ h9 => h9) rfl dX5_send_63 ?_
          refine lv_iload_n hx hb dX5_send_66 rfl (lv_at hl 1 rfl) ?_
          refine lv_iload_n hx hb dX5_send_67 rfl (lv_at hl 2 rfl) ?_
          have hPc : va_P (dC, dI) vwCl (cSt (fun j => a (1 + j)) cI (G 0)) H6 := hP.sub [1, 2, 3, 4, 5, 6, 7, 8, 9, 10, 11, 12] rfl
          have hDc : va_D (fun _ => True) (cSt (fun j => a (1 + j)) cI (G 0)) := hD0.sub [1, 2, 3, 4, 5, 6, 7, 8, 9, 10, 11, 12] (by decide) rfl
          have hFc : ∀ q : Nat, va_A [] H6.size q → (va_A [] s.heap.size) q := roF hS hA
          refine va_calli (va_runV (As := [.int p1, .int p2]) (rest := []) ⟨hx, hb, hml, hown, hts⟩ (c_X4_gainOf l dC dI cI cC cS (fun j => a (1 + j)) (G 0) H6.size p1 p2 (below_vp (n := 4) c4) (below_vp (n := 12) c8)) (cwV 2 hts gX5_send_X4_gainOf rfl rfl rfl (by decide +kernel) ⟨Nat.le_of_ble_eq_true rfl, Nat.le_of_ble_eq_true rfl⟩) (pV (q0 := 0) hK hPc hDc hN rfl rfl) rfl rfl hl.1 rfl (lv_room (Nat.le_of_ble_eq_true rfl)) dX5_send_68 ⟨Nat.le_of_ble_eq_true rfl, Nat.le_of_ble_eq_true rfl⟩) hS (fun q _ h => hFc q h) hFc (fun r_13 u_13 t_13 H14 locs ht hvm hw hB hz1 hk1 hS => ?_)
          subst hw
          have hP := ro_keep hP hk1
          exact W.iret (v := f_X4_gainOf (G 0) p1 p2) hx hb hr (fun t ht hWw => ⟨⟨f_X4_gainOf (G 0) p1 p2, (), rfl, hR.symm.trans eR, trivial⟩, hS.F ht⟩) hS.2.2 dX5_send_71
        · rw [if_neg c12] at hR
          refine lv_lookup (off := 52) (tgt := 72) hx hb dX5_send_20 (by decide) (by show Op.lookupswitch.offset _ _ _ = _; simp only [Array.toList]; rw [lv_osw c9 (by decide), lv_osw c12 (by decide)]; rfl) (by decide) ?_
          refine lv_iconst (v := (-1)) hx hb dX5_send_72 (by decide) ?_
          exact W.iret (v := (-1)) hx hb hr (fun t ht hWw => ⟨⟨(-1), (), rfl, hR.symm.trans eR, trivial⟩, hS.F ht⟩) hS.2.2 dX5_send_73
    · rw [if_pos c8] at hR
      refine lv_iconst (v := (-1)) hx hb dX5_send_17 (by decide) ?_
      exact W.iret (v := (-1)) hx hb hr (fun t ht hWw => ⟨⟨(-1), (), rfl, hR.symm.trans eR, trivial⟩, hS.F ht⟩) hS.2.2 dX5_send_18
abbrev rm_X5_scene : Room := { frames := 1, cells := 0, slots := 0, locals := 21 }
def f_X5_scene (G : GR) (p1 : Int32) (p2 : Int32) : Int32 := (if (f_X5_isBelow p1 6) = 0 then (-1) else (if (f_X5_isBelow p2 17) = 0 then (-1) else (if (f_X5_hasBit ((G 0) 10 7) p1) = 0 then (-99) else (G 0) 8 ((p1 * 17) + p2).toNatClampNeg)))
theorem ix_9 : ∀ q0 : Nat, q0 < 6 → ∀ q1 : Nat, q1 < 17 → vp_okB (((nI q0) * 17) + (nI q1)) 102 = true := by decide +kernel
set_option maxHeartbeats 4000000 in
set_option maxRecDepth 100000 in
theorem c_X5_scene (l : Launch) (dC : Nat → ClassId) (dI : Nat → Nat → Nat) (cI cC cS : ClassId) (a : Nat → Nat) (G : GR) (sz : Nat) (p1 : Int32) (p2 : Int32) (hG : WFG G) : Met l yX5_scene wsX5_scene rm_X5_scene (PcG (dC, dI) (tyL cI cC cS) (cDk a cI cC cS G) sz [.ref (a 0), .int p1, .int p2]) (va_Qi (fun (r : Int32) (_ : Unit) => r = f_X5_scene G p1 p2) (fun _ _ => True) (va_A [] sz)) 0 0 (va_A [] sz) := by
  refine Met.ofW (cc := cX5_scene) (maxL := 3) (ret := (some .int)) (by decide) rfl ?_
  intro p e s m args below meth c s₁ B hml hv
  obtain ⟨rfl, hsz, hP, hK, hD0, hN⟩ := hv
  have hx := B.exec
  have hb := B.bytes
  have hr := B.returns
  have hts := atoms_spec (ws := wsX5_scene) B.pre
  have hown : s.vm.findClass RX5 = some m.cls := findClass_of_methodNamed B.named
  have hlocks := B.notSynchronized
  subst hsz
  have hA : ∀ q : Nat, s.heap.size ≤ q → (va_A [] s.heap.size) q := fun q h => Or.inr h
  have hS : va_S (va_A [] s.heap.size) s.heap s.heap [] := va_S.rf
  have hin5 : ∀ w ∈ wsX50, w ∈ wsX5_scene := fun _ h => List.mem_cons_of_mem _ (List.mem_append_left _ (List.mem_append_right _ h))
  have hin4 : ∀ w ∈ wsX40, w ∈ wsX5_scene := fun _ h => List.mem_cons_of_mem _ (List.mem_append_right _ h)
  have hl := lv_entry [.ref (a 0), .int p1, .int p2] (n := 3) (Nat.le_of_ble_eq_true rfl)
  rw [lg_entry_eq]
  generalize (lg_sl [.ref (a 0), .int p1, .int p2] ++ List.replicate (3 - (lg_sl [.ref (a 0), .int p1, .int p2]).length) Slot.unset).toArray = ls at hl ⊢
  have hl : lv_has ls 3 [(0, .ref (a 0)), (1, .int p1), (2, .int p2)] := hl
  obtain ⟨R0, eR⟩ : ∃ z, z = f_X5_scene G p1 p2 := ⟨_, rfl⟩
  have hR := eR
  rw [f_X5_scene] at hR
  refine lv_iload_n hx hb dX5_scene_0 rfl (lv_at hl 1 rfl) ?_
  refine lv_bipush (v := 6) hx hb dX5_scene_1 (by decide) ?_
  have hFc : ∀ q : Nat, va_A [] s.heap.size q → (va_A [] s.heap.size) q := roF hS hA
  refine va_calli (va_runS (As := [.int p1, .int 6]) (rest := []) ⟨hx, hb, hml, hown, hts⟩ (c_X5_isBelow l dC dI cI cC cS s.heap.size p1 6) (va_cwS 2 hts gX5_scene_X5_isBelow rfl rfl rfl (by decide +kernel) ⟨Nat.le_of_ble_eq_true rfl, Nat.le_of_ble_eq_true rfl⟩) (pS hK (va_P_nil) (va_D_nil) hN) rfl rfl hl.1 rfl (lv_room (Nat.le_of_ble_eq_true rfl)) dX5_scene_3 ⟨Nat.le_of_ble_eq_true rfl, Nat.le_of_ble_eq_true rfl⟩) hS (fun q _ h => hFc q h) hFc (fun r_1 u_1 t_1 H2 locs ht hvm hw hB hz1 hk1 hS => ?_)
  obtain ⟨hw, hre3⟩ := hw
  subst hw
  have hP := ro_keep hP hk1
  refine lv_if_eq (tgt := 18) hx hb dX5_scene_6 (by decide) (fun c4 => ?_) (fun c4 => ?_)
  · rw [if_pos c4] at hR
    refine lv_iconst (v := (-1)) hx hb dX5_scene_18 (by decide) ?_
    exact W.iret (v := (-1)) hx hb hr (fun t ht hWw => ⟨⟨(-1), (), rfl, hR.symm.trans eR, trivial⟩, hS.F ht⟩) hS.2.2 dX5_scene_19
  · rw [if_neg c4] at hR
    obtain ⟨ip1, hip1, ep1⟩ := vp_in_of (below_vp (n := 6) c4) (by decide)
    refine lv_iload_n hx hb dX5_scene_9 rfl (lv_at hl 2 rfl) ?_
    refine lv_bipush (v := 17) hx hb dX5_scene_10 (by decide) ?_
    have hFc : ∀ q : Nat, va_A [] H2.size q → (va_A [] s.heap.size) q := roF hS hA
    refine va_calli (va_runS (As := [.int p2, .int 17]) (rest := []) ⟨hx, hb, hml, hown, hts⟩ (c_X5_isBelow l dC dI cI cC cS H2.size p2 17) (va_cwS 2 hts gX5_scene_X5_isBelow rfl rfl rfl (by decide +kernel) ⟨Nat.le_of_ble_eq_true rfl, Nat.le_of_ble_eq_true rfl⟩) (pS hK (va_P_nil) (va_D_nil) hN) rfl rfl hl.1 rfl (lv_room (Nat.le_of_ble_eq_true rfl)) dX5_scene_12 ⟨Nat.le_of_ble_eq_true rfl, Nat.le_of_ble_eq_true rfl⟩) hS (fun q _ h => hFc q h) hFc (fun r_5 u_5 t_5 H6 locs ht hvm hw hB hz1 hk1 hS => ?_)
    obtain ⟨hw, hre7⟩ := hw
    subst hw
    have hP := ro_keep hP hk1
    refine lv_if_ne (tgt := 20) hx hb dX5_scene_15 (by decide) (fun c8 => ?_) (fun c8 => ?_)
    · rw [if_neg c8] at hR
      obtain ⟨ip2, hip2, ep2⟩ := vp_in_of (below_vp (n := 17) c8) (by decide)
      refine lv_aload_n hx hb dX5_scene_20 rfl (lv_at hl 0 rfl) ?_
      refine va_get (D := (dC, dI)) (ci := 5) (v := .ref (a 1)) (C := RX5) (T := TX5) (N := 5) hx hb hts hin5 hown hK hP 0 rfl rfl 0 (by decide) (hts (.fieldLink RX5 12 "FeedDesk" "now" "LFeedDesk$State;") (List.mem_of_getElem? (i := 1) rfl)) (fun _ h9 => h9) rfl dX5_scene_21 ?_
      refine va_getN (D := (dC, dI)) (ci := 4) (v := .int ((G 0) 10 7)) (C := RX4) (T := TX4) (N := 18) hx hb hts hin4 hown hK hP 1 rfl rfl 16 (by decide) (va_Nw.use rfl (hN.at 33 rfl)) (fun _ h9 => h9) rfl dX5_scene_24 ?_
      refine lv_iload_n hx hb dX5_scene_27 rfl (lv_at hl 1 rfl) ?_
      have hFc : ∀ q : Nat, va_A [] H6.size q → (va_A [] s.heap.size) q := roF hS hA
      refine va_calli (va_runS (As := [.int ((G 0) 10 7), .int p1]) (rest := []) ⟨hx, hb, hml, hown, hts⟩ (c_X5_hasBit l dC dI cI cC cS H6.size ((G 0) 10 7) p1) (va_cwS 2 hts gX5_scene_X5_hasBit rfl rfl rfl (by decide +kernel) ⟨Nat.le_of_ble_eq_true rfl, Nat.le_of_ble_eq_true rfl⟩) (pS hK (va_P_nil) (va_D_nil) hN) rfl rfl hl.1 rfl (lv_room (Nat.le_of_ble_eq_true rfl)) dX5_scene_28 ⟨Nat.le_of_ble_eq_true rfl, Nat.le_of_ble_eq_true rfl⟩) hS (fun q _ h => hFc q h) hFc (fun r_9 u_9 t_9 H10 locs ht hvm hw hB hz1 hk1 hS => ?_)
      obtain ⟨hw, hre11⟩ := hw
      subst hw
      have hP := ro_keep hP hk1
      refine lv_if_ne (tgt := 37) hx hb dX5_scene_31 (by decide) (fun c12 => ?_) (fun c12 => ?_)
      · rw [if_neg c12] at hR
        refine lv_aload_n hx hb dX5_scene_37 rfl (lv_at hl 0 rfl) ?_
        refine va_get (D := (dC, dI)) (ci := 5) (v := .ref (a 1)) (C := RX5) (T := TX5) (N := 5) hx hb hts hin5 hown hK hP 0 rfl rfl 0 (by decide) (hts (.fieldLink RX5 12 "FeedDesk" "now" "LFeedDesk$State;") (List.mem_of_getElem? (i := 1) rfl)) (fun _ h9 => h9) rfl dX5_scene_38 ?_
        refine va_getN (D := (dC, dI)) (ci := 4) (v := .ref (a 10)) (C := RX4) (T := TX4) (N := 18) hx hb hts hin4 hown hK hP 1 rfl rfl 15 (by decide) (va_Nw.use rfl (hN.at 32 rfl)) (fun _ h9 => h9) rfl dX5_scene_41 ?_
        refine lv_iload_n hx hb dX5_scene_44 rfl (lv_at hl 1 rfl) ?_
        refine lv_bipush (v := 17) hx hb dX5_scene_45 (by decide) ?_
        refine lv_imul hx hb dX5_scene_47 ?_
        refine lv_iload_n hx hb dX5_scene_48 rfl (lv_at hl 2 rfl) ?_
        refine lv_iadd hx hb dX5_scene_49 ?_
        refine va_iald (f := (G 0) 8) hx hb hK hP 10 0 rfl rfl (by rw [ep1, ep2]; exact vp_of_B (ix_9 ip1 hip1 ip2 hip2)) dX5_scene_50 ?_
        exact W.iret (v := (G 0) 8 ((p1 * 17) + p2).toNatClampNeg) hx hb hr (fun t ht hWw => ⟨⟨(G 0) 8 ((p1 * 17) + p2).toNatClampNeg, (), rfl, hR.symm.trans eR, trivial⟩, hS.F ht⟩) hS.2.2 dX5_scene_51
      · rw [if_pos c12] at hR
        refine lv_bipush (v := (-99)) hx hb dX5_scene_34 (by decide) ?_
        exact W.iret (v := (-99)) hx hb hr (fun t ht hWw => ⟨⟨(-99), (), rfl, hR.symm.trans eR, trivial⟩, hS.F ht⟩) hS.2.2 dX5_scene_36
    · rw [if_pos c8] at hR
      refine lv_iconst (v := (-1)) hx hb dX5_scene_18 (by decide) ?_
      exact W.iret (v := (-1)) hx hb hr (fun t ht hWw => ⟨⟨(-1), (), rfl, hR.symm.trans eR, trivial⟩, hS.F ht⟩) hS.2.2 dX5_scene_19
abbrev rm_X5_why : Room := { frames := 3, cells := 0, slots := 0, locals := 65 }
def f_X5_why (G : GR) (p1 : Int32) : Int32 := (if (f_X5_isBelow p1 12) = 0 then (-1) else (if (f_X4_levelOf (G 0) p1) ≤ 0 then (if (f_X5_hasBit ((G 0) 10 0) p1) = 0 then (if (f_X4_isSoloedAway (G 0) p1) = 0 then (if ((G 0) 1 p1.toNatClampNeg) = 0 then 3 else 4) else 2) else 1) else 0))
set_option maxHeartbeats 4000000 in
set_option maxRecDepth 100000 in
theorem c_X5_why (l : Launch) (dC : Nat → ClassId) (dI : Nat → Nat → Nat) (cI cC cS : ClassId) (a : Nat → Nat) (G : GR) (sz : Nat) (p1 : Int32) (hG : WFG G) : Met l yX5_why wsX5_why rm_X5_why (PcG (dC, dI) (tyL cI cC cS) (cDk a cI cC cS G) sz [.ref (a 0), .int p1]) (va_Qi (fun (r : Int32) (_ : Unit) => r = f_X5_why G p1) (fun _ _ => True) (va_A [] sz)) 0 0 (va_A [] sz) := by
  refine Met.ofW (cc := cX5_why) (maxL := 2) (ret := (some .int)) (by decide) rfl ?_
  intro p e s m args below meth c s₁ B hml hv
  obtain ⟨rfl, hsz, hP, hK, hD0, hN⟩ := hv
  have hx := B.exec
  have hb := B.bytes
  have hr := B.returns
  have hts := atoms_spec (ws := wsX5_why) B.pre
  have hown : s.vm.findClass RX5 = some m.cls := findClass_of_methodNamed B.named
  have hlocks := B.notSynchronized
  subst hsz
  have hA : ∀ q : Nat, s.heap.size ≤ q → (va_A [] s.heap.size) q := fun q h => Or.inr h
  have hS : va_S (va_A [] s.heap.size) s.heap s.heap [] := va_S.rf
  have hin5 : ∀ w ∈ wsX50, w ∈ wsX5_why := fun _ h => List.mem_cons_of_mem _ (List.mem_append_left _ (List.mem_append_right _ h))
  have hin4 : ∀ w ∈ wsX40, w ∈ wsX5_why := fun _ h => List.mem_cons_of_mem _ (List.mem_append_right _ h)
  have hl := lv_entry [.ref (a 0), .int p1] (n := 2) (Nat.le_of_ble_eq_true rfl)
  rw [lg_entry_eq]
  generalize (lg_sl [.ref (a 0), .int p1] ++ List.replicate (2 - (lg_sl [.ref (a 0), .int p1]).length) Slot.unset).toArray = ls at hl ⊢
  have hl : lv_has ls 2 [(0, .ref (a 0)), (1, .int p1)] := hl
  obtain ⟨R0, eR⟩ : ∃ z, z = f_X5_why G p1 := ⟨_, rfl⟩
  have hR := eR
  rw [f_X5_why] at hR
  refine lv_iload_n hx hb dX5_why_0 rfl (lv_at hl 1 rfl) ?_
  refine lv_bipush (v := 12) hx hb dX5_why_1 (by decide) ?_
  have hFc : ∀ q : Nat, va_A [] s.heap.size q → (va_A [] s.heap.size) q := roF hS hA
  refine va_calli (va_runS (As := [.int p1, .int 12]) (rest := []) ⟨hx, hb, hml, hown, hts⟩ (c_X5_isBelow l dC dI cI cC cS s.heap.size p1 12) (va_cwS 2 hts gX5_why_X5_isBelow rfl rfl rfl (by decide +kernel) ⟨Nat.le_of_ble_eq_true rfl, Nat.le_of_ble_eq_true rfl⟩) (pS hK (va_P_nil) (va_D_nil) hN) rfl rfl hl.1 rfl (lv_room (Nat.le_of_ble_eq_true rfl)) dX5_why_3 ⟨Nat.le_of_ble_eq_true rfl, Nat.le_of_ble_eq_true rfl⟩) hS (fun q _ h => hFc q h) hFc (fun r_1 u_1 t_1 H2 locs ht hvm hw hB hz1 hk1 hS => ?_)
  obtain ⟨hw, hre3⟩ := hw
  subst hw
  have hP := ro_keep hP hk1
  refine lv_if_ne (tgt := 11) hx hb dX5_why_6 (by decide) (fun c4 => ?_) (fun c4 => ?_)
  · rw [if_neg c4] at hR
    refine lv_aload_n hx hb dX5_why_11 rfl (lv_at hl 0 rfl) ?_
    refine va_get (D := (dC, dI)) (ci := 5) (v := .ref (a 1)) (C := RX5) (T := TX5) (N := 5) hx hb hts hin5 hown hK hP 0 rfl rfl 0 (by decide) (hts (.fieldLink RX5 12 "FeedDesk" "now" "LFeedDesk$State;") (List.mem_of_getElem? (i := 1) rfl)) (fun _ h9 => h9) rfl dX5_why_12 ?_
    refine lv_iload_n hx hb dX5_why_15 rfl (lv_at hl 1 rfl) ?_
    have hPc : va_P (dC, dI) vwCl (cSt (fun j => a (1 + j)) cI (G 0)) H2 := hP.sub [1, 2, 3, 4, 5, 6, 7, 8, 9, 10, 11, 12] rfl
    have hDc : va_D (fun _ => True) (cSt (fun j => a (1 + j)) cI (G 0)) := hD0.sub [1, 2, 3, 4, 5, 6, 7, 8, 9, 10, 11, 12] (by decide) rfl
    have hFc : ∀ q : Nat, va_A [] H2.size q → (va_A [] s.heap.size) q := roF hS hA
    refine va_calli (va_runV (As := [.int p1]) (rest := []) ⟨hx, hb, hml, hown, hts⟩ (c_X4_levelOf l dC dI cI cC cS (fun j => a (1 + j)) (G 0) H2.size p1 (below_vp (n := 12) c4)) (cwV 1 hts gX5_why_X4_levelOf rfl rfl rfl (by decide +kernel) ⟨Nat.le_of_ble_eq_true rfl, Nat.le_of_ble_eq_true rfl⟩) (pV (q0 := 0) hK hPc hDc hN rfl rfl) rfl rfl hl.1 rfl (lv_room (Nat.le_of_ble_eq_true rfl)) dX5_why_16 ⟨Nat.le_of_ble_eq_true rfl, Nat.le_of_ble_eq_true rfl⟩) hS (fun q _ h => hFc q h) hFc (fun r_5 u_5 t_5 H6 locs ht hvm hw hB hz1 hk1 hS => ?_)
    subst hw
    have hP := ro_keep hP hk1
    refine lv_if_le (tgt := 24) hx hb dX5_why_19 (by decide) (fun c7 => ?_) (fun c7 => ?_)
    · rw [if_pos c7] at hR
      refine lv_aload_n hx hb dX5_why_24 rfl (lv_at hl 0 rfl) ?_
      refine va_get (D := (dC, dI)) (ci := 5) (v := .ref (a 1)) (C := RX5) (T := TX5) (N := 5) hx hb hts hin5 hown hK hP 0 rfl rfl 0 (by decide) (hts (.fieldLink RX5 12 "FeedDesk" "now" "LFeedDesk$State;") (List.mem_of_getElem? (i := 1) rfl)) (fun _ h9 => h9) rfl dX5_why_25 ?_
      refine va_getN (D := (dC, dI)) (ci := 4) (v := .int ((G 0) 10 0)) (C := RX4) (T := TX4) (N := 18) hx hb hts hin4 hown hK hP 1 rfl rfl 3 (by decide) (va_Nw.use rfl (hN.at 18 rfl)) (fun _ h9 => h9) rfl dX5_why_28 ?_
      refine lv_iload_n hx hb dX5_why_31 rfl (lv_at hl 1 rfl) ?_
      have hFc : ∀ q : Nat, va_A [] H6.size q → (va_A [] s.heap.size) q := roF hS hA
      refine va_calli (va_runS (As := [.int ((G 0) 10 0), .int p1]) (rest := []) ⟨hx, hb, hml, hown, hts⟩ (c_X5_hasBit l dC dI cI cC cS H6.size ((G 0) 10 0) p1) (va_cwS 2 hts gX5_why_X5_hasBit rfl rfl rfl (by decide +kernel) ⟨Nat.le_of_ble_eq_true rfl, Nat.le_of_ble_eq_true rfl⟩) (pS hK (va_P_nil) (va_D_nil) hN) rfl rfl hl.1 rfl (lv_room (Nat.le_of_ble_eq_true rfl)) dX5_why_32 ⟨Nat.le_of_ble_eq_true rfl, Nat.le_of_ble_eq_true rfl⟩) hS (fun q _ h => hFc q h) hFc (fun r_8 u_8 t_8 H9 locs ht hvm hw hB hz1 hk1 hS => ?_)
      obtain ⟨hw, hre10⟩ := hw
      subst hw
      have hP := ro_keep hP hk1
      refine lv_if_eq (tgt := 40) hx hb dX5_why_35 (by decide) (fun c11 => ?_) (fun c11 => ?_)
      · rw [if_pos c11] at hR
        refine lv_aload_n hx hb dX5_why_40 rfl (lv_at hl 0 rfl) ?_
        refine va_get (D := (dC, dI)) (ci := 5) (v := .ref (a 1)) (C := RX5) (T := TX5) (N := 5) hx hb hts hin5 hown hK hP 0 rfl rfl 0 (by decide) (hts (.fieldLink RX5 12 "FeedDesk" "now" "LFeedDesk$State;") (List.mem_of_getElem? (i := 1) rfl)) (fun _ h9 => h9) rfl dX5_why_41 ?_
        refine lv_iload_n hx hb dX5_why_44 rfl (lv_at hl 1 rfl) ?_
        have hPc : va_P (dC, dI) vwCl (cSt (fun j => a (1 + j)) cI (G 0)) H9 := hP.sub [1, 2, 3, 4, 5, 6, 7, 8, 9, 10, 11, 12] rfl
        have hDc : va_D (fun _ => True) (cSt (fun j => a (1 + j)) cI (G 0)) := hD0.sub [1, 2, 3, 4, 5, 6, 7, 8, 9, 10, 11, 12] (by decide) rfl
        have hFc : ∀ q : Nat, va_A [] H9.size q → (va_A [] s.heap.size) q := roF hS hA
        refine va_calli (va_runV (As := [.int p1]) (rest := []) ⟨hx, hb, hml, hown, hts⟩ (c_X4_isSoloedAway l dC dI cI cC cS (fun j => a (1 + j)) (G 0) H9.size p1 (below_vp (n := 12) c4)) (cwV 1 hts gX5_why_X4_isSoloedAway rfl rfl rfl (by decide +kernel) ⟨Nat.le_of_ble_eq_true rfl, Nat.le_of_ble_eq_true rfl⟩) (pV (q0 := 0) hK hPc hDc hN rfl rfl) rfl rfl hl.1 rfl (lv_room (Nat.le_of_ble_eq_true rfl)) dX5_why_45 ⟨Nat.le_of_ble_eq_true rfl, Nat.le_of_ble_eq_true rfl⟩) hS (fun q _ h => hFc q h) hFc (fun r_12 u_12 t_12 H13 locs ht hvm hw hB hz1 hk1 hS => ?_)
        obtain ⟨hw, hre14⟩ := hw
        subst hw
        have hP := ro_keep hP hk1
        refine lv_if_eq (tgt := 53) hx hb dX5_why_48 (by decide) (fun c15 => ?_) (fun c15 => ?_)
        · rw [if_pos c15] at hR
          refine lv_aload_n hx hb dX5_why_53 rfl (lv_at hl 0 rfl) ?_
          refine va_get (D := (dC, dI)) (ci := 5) (v := .ref (a 1)) (C := RX5) (T := TX5) (N := 5) hx hb hts hin5 hown hK hP 0 rfl rfl 0 (by decide) (hts (.fieldLink RX5 12 "FeedDesk" "now" "LFeedDesk$State;") (List.mem_of_getElem? (i := 1) rfl)) (fun _ h9 => h9) rfl dX5_why_54 ?_
          refine va_getN (D := (dC, dI)) (ci := 4) (v := .ref (a 3)) (C := RX4) (T := TX4) (N := 18) hx hb hts hin4 hown hK hP 1 rfl rfl 1 (by decide) (va_Nw.use rfl (hN.at 17 rfl)) (fun _ h9 => h9) rfl dX5_why_57 ?_
          refine lv_iload_n hx hb dX5_why_60 rfl (lv_at hl 1 rfl) ?_
          refine va_iald (f := (G 0) 1) hx hb hK hP 3 0 rfl rfl (vp_mono (below_vp (n := 12) c4) (by decide)) dX5_why_61 ?_
          refine lv_if_ne (tgt := 67) hx hb dX5_why_62 (by decide) (fun c16 => ?_) (fun c16 => ?_)
          · rw [if_neg c16] at hR
            refine lv_iconst (v := 4) hx hb dX5_why_67 (by decide) ?_
            exact W.iret (v := 4) hx hb hr (fun t ht hWw => ⟨⟨4, (), rfl, hR.symm.trans eR, trivial⟩, hS.F ht⟩) hS.2.2 dX5_why_68
          · rw [if_pos c16] at hR
            refine lv_iconst (v := 3) hx hb dX5_why_65 (by decide) ?_
            exact W.iret (v := 3) hx hb hr (fun t ht hWw => ⟨⟨3, (), rfl, hR.symm.trans eR, trivial⟩, hS.F ht⟩) hS.2.2 dX5_why_66
        · rw [if_neg c15] at hR
          refine lv_iconst (v := 2) hx hb dX5_why_51 (by decide) ?_
          exact W.iret (v := 2) hx hb hr (fun t ht hWw => ⟨⟨2, (), rfl, hR.symm.trans eR, trivial⟩, hS.F ht⟩) hS.2.2 dX5_why_52
      · rw [if_neg c11] at hR
        refine lv_iconst (v := 1) hx hb dX5_why_38 (by decide) ?_
        exact W.iret (v := 1) hx hb hr (fun t ht hWw => ⟨⟨1, (), rfl, hR.symm.trans eR, trivial⟩, hS.F ht⟩) hS.2.2 dX5_why_39
    · rw [if_neg c7] at hR
      refine lv_iconst (v := 0) hx hb dX5_why_22 (by decide) ?_
      exact W.iret (v := 0) hx hb hr (fun t ht hWw => ⟨⟨0, (), rfl, hR.symm.trans eR, trivial⟩, hS.F ht⟩) hS.2.2 dX5_why_23
  · rw [if_pos c4] at hR
    refine lv_iconst (v := (-1)) hx hb dX5_why_9 (by decide) ?_
    exact W.iret (v := (-1)) hx hb hr (fun t ht hWw => ⟨⟨(-1), (), rfl, hR.symm.trans eR, trivial⟩, hS.F ht⟩) hS.2.2 dX5_why_10
