abbrev rm_L_act : Room := { frames := 6, cells := 0, slots := 0, locals := 131 }
def f_L_act (G : GR) (p2 : Int32) : Int32 × GR := (if (p2 &&& 15) = 0 then sLet ((f_X5_setChannel G (f_L_low (p2 >>> (4 &&& 31)) 6) 0 (f_L_low (p2 * 3) 1001)).2) (fun Gn11 : GR => ((f_X5_setChannel G (f_L_low (p2 >>> (4 &&& 31)) 6) 0 (f_L_low (p2 * 3) 1001)).1, Gn11)) else (if (p2 &&& 15) = 1 then sLet ((f_X5_setChannel G (f_L_low (p2 >>> (4 &&& 31)) 6) 1 (f_L_low (p2 >>> (3 &&& 31)) 101)).2) (fun Gn17 : GR => ((f_X5_setChannel G (f_L_low (p2 >>> (4 &&& 31)) 6) 1 (f_L_low (p2 >>> (3 &&& 31)) 101)).1, Gn17)) else (if (p2 &&& 15) = 2 then sLet ((f_X5_setChannel G (f_L_low (p2 >>> (4 &&& 31)) 6) 1 (f_L_low (p2 >>> (3 &&& 31)) 101)).2) (fun Gn23 : GR => ((f_X5_setChannel G (f_L_low (p2 >>> (4 &&& 31)) 6) 1 (f_L_low (p2 >>> (3 &&& 31)) 101)).1, Gn23)) else (if (p2 &&& 15) = 3 then sLet ((f_X5_setChannel G (f_L_low (p2 >>> (4 &&& 31)) 6) ((2 : Int32) + ((p2 >>> (8 &&& 31)) &&& 1)) ((p2 >>> (7 &&& 31)) &&& 1)).2) (fun Gn29 : GR => ((f_X5_setChannel G (f_L_low (p2 >>> (4 &&& 31)) 6) ((2 : Int32) + ((p2 >>> (8 &&& 31)) &&& 1)) ((p2 >>> (7 &&& 31)) &&& 1)).1, Gn29)) else (if (p2 &&& 15) = 4 then sLet ((f_X5_setChannel G (f_L_low (p2 >>> (4 &&& 31)) 6) 4 ((p2 >>> (6 &&& 31)) &&& 15)).2) (fun Gn35 : GR => ((f_X5_setChannel G (f_L_low (p2 >>> (4 &&& 31)) 6) 4 ((p2 >>> (6 &&& 31)) &&& 15)).1, Gn35)) else (if (p2 &&& 15) = 5 then (if ((p2 >>> (9 &&& 31)) &&& 1) = 0 then sLet ((f_X5_setGroup G ((p2 >>> (7 &&& 31)) &&& 3) ((p2 >>> (9 &&& 31)) &&& 1) (f_L_low (p2 >>> (3 &&& 31)) 101)).2) (fun Gn47 : GR => ((f_X5_setGroup G ((p2 >>> (7 &&& 31)) &&& 3) ((p2 >>> (9 &&& 31)) &&& 1) (f_L_low (p2 >>> (3 &&& 31)) 101)).1, Gn47)) else sLet ((f_X5_setGroup G ((p2 >>> (7 &&& 31)) &&& 3) ((p2 >>> (9 &&& 31)) &&& 1) ((p2 >>> (4 &&& 31)) &&& 1)).2) (fun Gn42 : GR => ((f_X5_setGroup G ((p2 >>> (7 &&& 31)) &&& 3) ((p2 >>> (9 &&& 31)) &&& 1) ((p2 >>> (4 &&& 31)) &&& 1)).1, Gn42))) else (if (p2 &&& 15) = 6 then sLet ((f_X5_setSend G ((p2 >>> (7 &&& 31)) &&& 3) (f_L_low (p2 >>> (4 &&& 31)) 6) (f_L_low (p2 >>> (3 &&& 31)) 101)).2) (fun Gn53 : GR => ((f_X5_setSend G ((p2 >>> (7 &&& 31)) &&& 3) (f_L_low (p2 >>> (4 &&& 31)) 6) (f_L_low (p2 >>> (3 &&& 31)) 101)).1, Gn53)) else (if (p2 &&& 15) = 7 then sLet ((f_X5_setSend G ((p2 >>> (7 &&& 31)) &&& 3) (f_L_low (p2 >>> (4 &&& 31)) 6) (f_L_low (p2 >>> (3 &&& 31)) 101)).2) (fun Gn59 : GR => ((f_X5_setSend G ((p2 >>> (7 &&& 31)) &&& 3) (f_L_low (p2 >>> (4 &&& 31)) 6) (f_L_low (p2 >>> (3 &&& 31)) 101)).1, Gn59)) else (if (p2 &&& 15) = 8 then sLet ((f_X5_setSend G ((p2 >>> (7 &&& 31)) &&& 3) (f_L_low (p2 >>> (4 &&& 31)) 6) (f_L_low (p2 >>> (3 &&& 31)) 101)).2) (fun Gn65 : GR => ((f_X5_setSend G ((p2 >>> (7 &&& 31)) &&& 3) (f_L_low (p2 >>> (4 &&& 31)) 6) (f_L_low (p2 >>> (3 &&& 31)) 101)).1, Gn65)) else (if (p2 &&& 15) = 9 then sLet ((f_X5_setOwner G ((p2 >>> (7 &&& 31)) &&& 3) (f_L_low (p2 >>> (4 &&& 31)) 6) ((p2 >>> (9 &&& 31)) &&& 1)).2) (fun Gn71 : GR => ((f_X5_setOwner G ((p2 >>> (7 &&& 31)) &&& 3) (f_L_low (p2 >>> (4 &&& 31)) 6) ((p2 >>> (9 &&& 31)) &&& 1)).1, Gn71)) else (if (p2 &&& 15) = 10 then sLet ((f_X5_setReturn G ((p2 >>> (7 &&& 31)) &&& 3) ((f_L_low (p2 >>> (4 &&& 31)) 7) - 1)).2) (fun Gn79 : GR => ((f_X5_setReturn G ((p2 >>> (7 &&& 31)) &&& 3) ((f_L_low (p2 >>> (4 &&& 31)) 7) - 1)).1, Gn79)) else (if (p2 &&& 15) = 11 then sLet ((f_X5_setReturn G ((p2 >>> (7 &&& 31)) &&& 3) ((f_L_low (p2 >>> (4 &&& 31)) 7) - 1)).2) (fun Gn87 : GR => ((f_X5_setReturn G ((p2 >>> (7 &&& 31)) &&& 3) ((f_L_low (p2 >>> (4 &&& 31)) 7) - 1)).1, Gn87)) else (if (p2 &&& 15) = 12 then sLet ((f_X5_store G (f_L_low (p2 >>> (4 &&& 31)) 3)).2) (fun Gn95 : GR => ((f_X5_store G (f_L_low (p2 >>> (4 &&& 31)) 3)).1, Gn95)) else (if (p2 &&& 15) = 13 then sLet ((f_X5_recall G (f_L_low (p2 >>> (4 &&& 31)) 3) (f_L_low (p2 >>> (6 &&& 31)) 9)).2) (fun Gn105 : GR => ((f_X5_recall G (f_L_low (p2 >>> (4 &&& 31)) 3) (f_L_low (p2 >>> (6 &&& 31)) 9)).1, Gn105)) else (if (p2 &&& 15) = 14 then sLet ((f_X5_reset G).2) (fun Gn111 : GR => ((f_X5_reset G).1, Gn111)) else sLet ((f_X5_run G ((1 : Int32) + (f_L_low (p2 >>> (4 &&& 31)) 9))).2) (fun Gn118 : GR => ((f_X5_run G ((1 : Int32) + (f_L_low (p2 >>> (4 &&& 31)) 9))).1, Gn118)))))))))))))))))
set_option maxHeartbeats 4000000 in
set_option maxRecDepth 100000 in
theorem c_L_act (l : Launch) (dC : Nat → ClassId) (dI : Nat → Nat → Nat) (cI cC cS : ClassId) (a : Nat → Nat) (G : GR) (sz : Nat) (p2 : Int32) (hG : WFG G) : Met l yL_act wsL_act rm_L_act (PcS (dC, dI) (tyL cI cC cS) (cDk a cI cC cS G) sz [.ref (a 0), .int p2] (va_A (cDk a cI cC cS G) sz)) (va_Qi (fun (r : Int32) (u : GR) => (r, u) = f_L_act G p2 ∧ (WFG u)) (fun u U => va_P (dC, dI) vwCl (cDk a cI cC cS u) U.heap ∧ va_D (va_A (cDk a cI cC cS G) sz) (cDk a cI cC cS u)) (va_A (cDk a cI cC cS G) sz)) 0 0 (va_A (cDk a cI cC cS G) sz) := by
  refine Met.ofW (cc := cL_act) (maxL := 6) (ret := (some .int)) (by decide) rfl ?_
  intro p e s m args below meth c s₁ B hml hv
  obtain ⟨rfl, hsz, hP, hK, hD0, hN, hT⟩ := hv
  have hx := B.exec
  have hb := B.bytes
  have hr := B.returns
  have hts := atoms_spec (ws := wsL_act) B.pre
  have hown : s.vm.findClass RL = some m.cls := findClass_of_methodNamed B.named
  have hlocks := B.notSynchronized
  subst hsz
  obtain ⟨⟨tc, hZc, hTc⟩, ⟨tg, hZg, hTg⟩, ⟨ks, kv, hSk, hSr⟩⟩ := id hT
  have hD := hD0.self (sz := s.heap.size)
  have hA : ∀ q : Nat, s.heap.size ≤ q → (va_A (cDk a cI cC cS G) s.heap.size) q := fun q h => Or.inr h
  have hS : va_S (va_A (cDk a cI cC cS G) s.heap.size) s.heap s.heap [] := va_S.rf
  have hl := lv_entry [.ref (a 0), .int p2] (n := 6) (Nat.le_of_ble_eq_true rfl)
  rw [lg_entry_eq]
  generalize (lg_sl [.ref (a 0), .int p2] ++ List.replicate (6 - (lg_sl [.ref (a 0), .int p2]).length) Slot.unset).toArray = ls at hl ⊢
  have hl : lv_has ls 6 [(0, .ref (a 0)), (1, .int p2)] := hl
  obtain ⟨R0, eR⟩ : ∃ z, z = f_L_act G p2 := ⟨_, rfl⟩
  have hR := eR
  rw [f_L_act] at hR
  refine lv_iload_n hx hb dL_act_0 rfl (lv_at hl 1 rfl) ?_
  refine lv_iconst (v := 4) hx hb dL_act_1 (by decide) ?_
  refine lv_ishr hx hb dL_act_2 ?_
  refine lv_istore_n (lv' := [(2, .int (p2 >>> (4 &&& 31))), (0, .ref (a 0)), (1, .int p2)]) hx hb dL_act_3 rfl hl (by decide) rfl (fun ls hl => ?_)
  refine lv_iload_n hx hb dL_act_4 rfl (lv_at hl 0 rfl) ?_
  refine lv_bipush (v := 6) hx hb dL_act_5 (by decide) ?_
  have hFc : ∀ q : Nat, va_A [] s.heap.size q → (va_A (cDk a cI cC cS G) s.heap.size) q := roF hS hA
  refine va_calli (va_runS (As := [.int (p2 >>> (4 &&& 31)), .int 6]) (rest := []) ⟨hx, hb, hml, hown, hts⟩ (c_L_low l dC dI cI cC cS s.heap.size (p2 >>> (4 &&& 31)) 6 (by decide)) (va_cwS 2 hts gL_act_L_low rfl rfl rfl (by decide +kernel) ⟨Nat.le_of_ble_eq_true rfl, Nat.le_of_ble_eq_true rfl⟩) (pS hK (va_P_nil) (va_D_nil) hN) rfl rfl hl.1 rfl (lv_room (Nat.le_of_ble_eq_true rfl)) dL_act_7 ⟨Nat.le_of_ble_eq_true rfl, Nat.le_of_ble_eq_true rfl⟩) hS (fun q _ h => hFc q h) hFc (fun r_1 u_1 t_1 H2 locs ht hvm hw hB hz1 hk1 hS => ?_)
  subst hw
  have hP := ro_keep hP hk1
  refine lv_istore_n (lv' := [(3, .int (f_L_low (p2 >>> (4 &&& 31)) 6)), (2, .int (p2 >>> (4 &&& 31))), (0, .ref (a 0)), (1, .int p2)]) hx hb dL_act_10 rfl hl (by decide) rfl (fun ls hl => ?_)
  refine lv_iload_n hx hb dL_act_11 rfl (lv_at hl 3 rfl) ?_
  refine lv_bipush (v := 7) hx hb dL_act_12 (by decide) ?_
  refine lv_ishr hx hb dL_act_14 ?_
  refine lv_iconst (v := 3) hx hb dL_act_15 (by decide) ?_
  refine lv_iand hx hb dL_act_16 ?_
  refine lv_istore (lv' := [(4, .int ((p2 >>> (7 &&& 31)) &&& 3)), (3, .int (f_L_low (p2 >>> (4 &&& 31)) 6)), (2, .int (p2 >>> (4 &&& 31))), (0, .ref (a 0)), (1, .int p2)]) hx hb dL_act_17 hl (by decide) rfl (fun ls hl => ?_)
  refine lv_iload_n hx hb dL_act_19 rfl (lv_at hl 4 rfl) ?_
  refine lv_iconst (v := 3) hx hb dL_act_20 (by decide) ?_
  refine lv_ishr hx hb dL_act_21 ?_
  refine lv_bipush (v := 101) hx hb dL_act_22 (by decide) ?_
  have hFc : ∀ q : Nat, va_A [] H2.size q → (va_A (cDk a cI cC cS G) s.heap.size) q := roF hS hA
  refine va_calli (va_runS (As := [.int (p2 >>> (3 &&& 31)), .int 101]) (rest := []) ⟨hx, hb, hml, hown, hts⟩ (c_L_low l dC dI cI cC cS H2.size (p2 >>> (3 &&& 31)) 101 (by decide)) (va_cwS 2 hts gL_act_L_low rfl rfl rfl (by decide +kernel) ⟨Nat.le_of_ble_eq_true rfl, Nat.le_of_ble_eq_true rfl⟩) (pS hK (va_P_nil) (va_D_nil) hN) rfl rfl hl.1 rfl (lv_room (Nat.le_of_ble_eq_true rfl)) dL_act_24 ⟨Nat.le_of_ble_eq_true rfl, Nat.le_of_ble_eq_true rfl⟩) hS (fun q _ h => hFc q h) hFc (fun r_3 u_3 t_3 H4 locs ht hvm hw hB hz1 hk1 hS => ?_)
  subst hw
  have hP := ro_keep hP hk1
  refine lv_istore (lv' := [(5, .int (f_L_low (p2 >>> (3 &&& 31)) 101)), (4, .int ((p2 >>> (7 &&& 31)) &&& 3)), (3, .int (f_L_low (p2 >>> (4 &&& 31)) 6)), (2, .int (p2 >>> (4 &&& 31))), (0, .ref (a 0)), (1, .int p2)]) hx hb dL_act_27 hl (by decide) rfl (fun ls hl => ?_)
  refine lv_iload_n hx hb dL_act_29 rfl (lv_at hl 5 rfl) ?_
  refine lv_bipush (v := 15) hx hb dL_act_30 (by decide) ?_
  refine lv_iand hx hb dL_act_32 ?_
  rcases Decidable.em ((p2 &&& 15) = 0) with c5 | c5
  · rw [if_pos c5] at hR
    refine lv_tableIn (tgt := 108) hx hb dL_act_33 (by rw [c5]; decide) (by rw [c5]; decide) (by rw [c5]; rfl) (by decide) ?_
    refine lv_aload_n hx hb dL_act_108 rfl (lv_at hl 4 rfl) ?_
    refine lv_iload_n hx hb dL_act_109 rfl (lv_at hl 2 rfl) ?_
    refine lv_iconst (v := 0) hx hb dL_act_110 (by decide) ?_
    refine lv_iload_n hx hb dL_act_111 rfl (lv_at hl 5 rfl) ?_
    refine lv_iconst (v := 3) hx hb dL_act_112 (by decide) ?_
    refine lv_imul hx hb dL_act_113 ?_
    refine lv_sipush (v := 1001) hx hb dL_act_114 (by decide) ?_
    have hFc : ∀ q : Nat, va_A [] H4.size q → (va_A (cDk a cI cC cS G) s.heap.size) q := roF hS hA
    refine va_calli (va_runS (As := [.int (p2 * 3), .int 1001]) (rest := [.int 0, .int (f_L_low (p2 >>> (4 &&& 31)) 6), .ref (a 0)]) ⟨hx, hb, hml, hown, hts⟩ (c_L_low l dC dI cI cC cS H4.size (p2 * 3) 1001 (by decide)) (va_cwS 2 hts gL_act_L_low rfl rfl rfl (by decide +kernel) ⟨Nat.le_of_ble_eq_true rfl, Nat.le_of_ble_eq_true rfl⟩) (pS hK (va_P_nil) (va_D_nil) hN) rfl rfl hl.1 rfl (lv_room (Nat.le_of_ble_eq_true rfl)) dL_act_117 ⟨Nat.le_of_ble_eq_true rfl, Nat.le_of_ble_eq_true rfl⟩) hS (fun q _ h => hFc q h) hFc (fun r_6 u_6 t_6 H7 locs ht hvm hw hB hz1 hk1 hS => ?_)
    subst hw
    have hP := ro_keep hP hk1
    have hPc : va_P (dC, dI) vwCl (cDk a cI cC cS G) H7 := hP.sub [0, 1, 2, 3, 4, 5, 6, 7, 8, 9, 10, 11, 12, 13, 14, 15, 16, 17, 18, 19, 20, 21, 22, 23, 24, 25, 26, 27, 28, 29, 30, 31, 32, 33, 34, 35, 36, 37, 38, 39, 40, 41, 42, 43, 44, 45, 46, 47, 48, 49, 50, 51, 52, 53, 54, 55, 56, 57, 58, 59, 60, 61, 62, 63, 64, 65, 66, 67, 68, 69, 70, 71, 72, 73, 74, 75, 76, 77, 78, 79, 80, 81, 82, 83, 84, 85, 86, 87, 88, 89, 90, 91, 92] rfl
    have hDc : va_D (va_A (cDk a cI cC cS G) s.heap.size) (cDk a cI cC cS G) := hD.sub [0, 1, 2, 3, 4, 5, 6, 7, 8, 9, 10, 11, 12, 13, 14, 15, 16, 17, 18, 19, 20, 21, 22, 23, 24, 25, 26, 27, 28, 29, 30, 31, 32, 33, 34, 35, 36, 37, 38, 39, 40, 41, 42, 43, 44, 45, 46, 47, 48, 49, 50, 51, 52, 53, 54, 55, 56, 57, 58, 59, 60, 61, 62, 63, 64, 65, 66, 67, 68, 69, 70, 71, 72, 73, 74, 75, 76, 77, 78, 79, 80, 81, 82, 83, 84, 85, 86, 87, 88, 89, 90, 91, 92] (by decide) rfl
    have hFc : ∀ q : Nat, va_A (cDk a cI cC cS G) H7.size q → (va_A (cDk a cI cC cS G) s.heap.size) q := va_free hD hS hA [0, 1, 2, 3, 4, 5, 6, 7, 8, 9, 10, 11, 12, 13, 14, 15, 16, 17, 18, 19, 20, 21, 22, 23, 24, 25, 26, 27, 28, 29, 30, 31, 32, 33, 34, 35, 36, 37, 38, 39, 40, 41, 42, 43, 44, 45, 46, 47, 48, 49, 50, 51, 52, 53, 54, 55, 56, 57, 58, 59, 60, 61, 62, 63, 64, 65, 66, 67, 68, 69, 70, 71, 72, 73, 74, 75, 76, 77, 78, 79, 80, 81, 82, 83, 84, 85, 86, 87, 88, 89, 90, 91, 92] rfl
    refine va_calli (va_runV (As := [.int (f_L_low (p2 >>> (4 &&& 31)) 6), .int 0, .int (f_L_low (p2 * 3) 1001)]) (rest := []) ⟨hx, hb, hml, hown, hts⟩ (c_X5_setChannel l dC dI cI cC cS a G H7.size (f_L_low (p2 >>> (4 &&& 31)) 6) 0 (f_L_low (p2 * 3) 1001) hG) (cwV 3 hts gL_act_X5_setChannel rfl rfl rfl (by decide +kernel) ⟨Nat.le_of_ble_eq_true rfl, Nat.le_of_ble_eq_true rfl⟩) (pVS (q0 := 0) hK hPc hDc hN hT hS hFc rfl rfl) rfl rfl hl.1 rfl (lv_room (Nat.le_of_ble_eq_true rfl)) dL_act_120 ⟨Nat.le_of_ble_eq_true rfl, Nat.le_of_ble_eq_true rfl⟩) hS (fun q _ h => hFc q h) hFc (fun r_8 u_8 t_8 H9 locs ht hvm hw hB hz1 hk1 hS => ?_)
    obtain ⟨hw, hens10⟩ := hw
    obtain ⟨hP1, hD1⟩ := hB
    rw [ht] at hP1
    have hw1 : r_8 = (f_X5_setChannel G (f_L_low (p2 >>> (4 &&& 31)) 6) 0 (f_L_low (p2 * 3) 1001)).1 := congrArg Prod.fst hw
    have hw2 : u_8 = (f_X5_setChannel G (f_L_low (p2 >>> (4 &&& 31)) 6) 0 (f_L_low (p2 * 3) 1001)).2 := congrArg Prod.snd hw
    clear hw
    subst hw1
    subst hw2
    obtain ⟨hP, hD⟩ := va_join (wc := cDk a cI cC cS G) (wr := []) (w1 := cDk a cI cC cS ((f_X5_setChannel G (f_L_low (p2 >>> (4 &&& 31)) 6) 0 (f_L_low (p2 * 3) 1001)).2)) hP hD [0, 1, 2, 3, 4, 5, 6, 7, 8, 9, 10, 11, 12, 13, 14, 15, 16, 17, 18, 19, 20, 21, 22, 23, 24, 25, 26, 27, 28, 29, 30, 31, 32, 33, 34, 35, 36, 37, 38, 39, 40, 41, 42, 43, 44, 45, 46, 47, 48, 49, 50, 51, 52, 53, 54, 55, 56, 57, 58, 59, 60, 61, 62, 63, 64, 65, 66, 67, 68, 69, 70, 71, 72, 73, 74, 75, 76, 77, 78, 79, 80, 81, 82, 83, 84, 85, 86, 87, 88, 89, 90, 91, 92] [] rfl rfl (by decide) (by decide) hk1 hFc hP1 hD1
    have hP : va_P (dC, dI) vwCl (cDk a cI cC cS ((f_X5_setChannel G (f_L_low (p2 >>> (4 &&& 31)) 6) 0 (f_L_low (p2 * 3) 1001)).2)) H9 := hP.sub [0, 1, 2, 3, 4, 5, 6, 7, 8, 9, 10, 11, 12, 13, 14, 15, 16, 17, 18, 19, 20, 21, 22, 23, 24, 25, 26, 27, 28, 29, 30, 31, 32, 33, 34, 35, 36, 37, 38, 39, 40, 41, 42, 43, 44, 45, 46, 47, 48, 49, 50, 51, 52, 53, 54, 55, 56, 57, 58, 59, 60, 61, 62, 63, 64, 65, 66, 67, 68, 69, 70, 71, 72, 73, 74, 75, 76, 77, 78, 79, 80, 81, 82, 83, 84, 85, 86, 87, 88, 89, 90, 91, 92] rfl
    have hD : va_D (va_A (cDk a cI cC cS G) s.heap.size) (cDk a cI cC cS ((f_X5_setChannel G (f_L_low (p2 >>> (4 &&& 31)) 6) 0 (f_L_low (p2 * 3) 1001)).2)) := hD.sub [0, 1, 2, 3, 4, 5, 6, 7, 8, 9, 10, 11, 12, 13, 14, 15, 16, 17, 18, 19, 20, 21, 22, 23, 24, 25, 26, 27, 28, 29, 30, 31, 32, 33, 34, 35, 36, 37, 38, 39, 40, 41, 42, 43, 44, 45, 46, 47, 48, 49, 50, 51, 52, 53, 54, 55, 56, 57, 58, 59, 60, 61, 62, 63, 64, 65, 66, 67, 68, 69, 70, 71, 72, 73, 74, 75, 76, 77, 78, 79, 80, 81, 82, 83, 84, 85, 86, 87, 88, 89, 90, 91, 92] (by decide) rfl
    obtain ⟨Gn11, eGn11⟩ : ∃ z : GR, z = (f_X5_setChannel G (f_L_low (p2 >>> (4 &&& 31)) 6) 0 (f_L_low (p2 * 3) 1001)).2 := ⟨_, rfl⟩
    rw [sLet_eq, ← eGn11] at hR
    rw [← eGn11] at hP hD
    have hG12 : WFG Gn11 := by rw [eGn11]; exact hens10
    exact W.iret (v := (f_X5_setChannel G (f_L_low (p2 >>> (4 &&& 31)) 6) 0 (f_L_low (p2 * 3) 1001)).1) hx hb hr (fun t ht hWw => ⟨⟨(f_X5_setChannel G (f_L_low (p2 >>> (4 &&& 31)) 6) 0 (f_L_low (p2 * 3) 1001)).1, Gn11, rfl, ⟨hR.symm.trans eR, hG12⟩, by rw [ht]; exact hP, hD⟩, hS.F ht⟩) hS.2.2 dL_act_123
  · rw [if_neg c5] at hR
    rcases Decidable.em ((p2 &&& 15) = 1) with c13 | c13
    · rw [if_pos c13] at hR
      refine lv_tableIn (tgt := 124) hx hb dL_act_33 (by rw [c13]; decide) (by rw [c13]; decide) (by rw [c13]; rfl) (by decide) ?_
      refine lv_aload_n hx hb dL_act_124 rfl (lv_at hl 4 rfl) ?_
      refine lv_iload_n hx hb dL_act_125 rfl (lv_at hl 2 rfl) ?_
      refine lv_iconst (v := 1) hx hb dL_act_126 (by decide) ?_
      refine lv_iload hx hb dL_act_127 (lv_at hl 0 rfl) ?_
      have hPc : va_P (dC, dI) vwCl (cDk a cI cC cS G) H4 := hP.sub [0, 1, 2, 3, 4, 5, 6, 7, 8, 9, 10, 11, 12, 13, 14, 15, 16, 17, 18, 19, 20, 21, 22, 23, 24, 25, 26, 27, 28, 29, 30, 31, 32, 33, 34, 35, 36, 37, 38, 39, 40, 41, 42, 43, 44, 45, 46, 47, 48, 49, 50, 51, 52, 53, 54, 55, 56, 57, 58, 59, 60, 61, 62, 63, 64, 65, 66, 67, 68, 69, 70, 71, 72, 73, 74, 75, 76, 77, 78, 79, 80, 81, 82, 83, 84, 85, 86, 87, 88, 89, 90, 91, 92] rfl
      have hDc : va_D (va_A (cDk a cI cC cS G) s.heap.size) (cDk a cI cC cS G) := hD.sub [0, 1, 2, 3, 4, 5, 6, 7, 8, 9, 10, 11, 12, 13, 14, 15, 16, 17, 18, 19, 20, 21, 22, 23, 24, 25, 26, 27, 28, 29, 30, 31, 32, 33, 34, 35, 36, 37, 38, 39, 40, 41, 42, 43, 44, 45, 46, 47, 48, 49, 50, 51, 52, 53, 54, 55, 56, 57, 58, 59, 60, 61, 62, 63, 64, 65, 66, 67, 68, 69, 70, 71, 72, 73, 74, 75, 76, 77, 78, 79, 80, 81, 82, 83, 84, 85, 86, 87, 88, 89, 90, 91, 92] (by decide) rfl
      have hFc : ∀ q : Nat, va_A (cDk a cI cC cS G) H4.size q → (va_A (cDk a cI cC cS G) s.heap.size) q := va_free hD hS hA [0, 1, 2, 3, 4, 5, 6, 7, 8, 9, 10, 11, 12, 13, 14, 15, 16, 17, 18, 19, 20, 21, 22, 23, 24, 25, 26, 27, 28, 29, 30, 31, 32, 33, 34, 35, 36, 37, 38, 39, 40, 41, 42, 43, 44, 45, 46, 47, 48, 49, 50, 51, 52, 53, 54, 55, 56, 57, 58, 59, 60, 61, 62, 63, 64, 65, 66, 67, 68, 69, 70, 71, 72, 73, 74, 75, 76, 77, 78, 79, 80, 81, 82, 83, 84, 85, 86, 87, 88, 89, 90, 91, 92] rfl
      refine va_calli (va_runV (As := [.int (f_L_low (p2 >>> (4 &&& 31)) 6), .int 1, .int (f_L_low (p2 >>> (3 &&& 31)) 101)]) (rest := []) ⟨hx, hb, hml, hown, hts⟩ (c_X5_setChannel l dC dI cI cC cS a G H4.size (f_L_low (p2 >>> (4 &&& 31)) 6) 1 (f_L_low (p2 >>> (3 &&& 31)) 101) hG) (cwV 3 hts gL_act_X5_setChannel rfl rfl rfl (by decide +kernel) ⟨Nat.le_of_ble_eq_true rfl, Nat.le_of_ble_eq_true rfl⟩) (pVS (q0 := 0) hK hPc hDc hN hT hS hFc rfl rfl) rfl rfl hl.1 rfl (lv_room (Nat.le_of_ble_eq_true rfl)) dL_act_129 ⟨Nat.le_of_ble_eq_true rfl, Nat.le_of_ble_eq_true rfl⟩) hS (fun q _ h => hFc q h) hFc (fun r_14 u_14 t_14 H15 locs ht hvm hw hB hz1 hk1 hS => ?_)
      obtain ⟨hw, hens16⟩ := hw
      obtain ⟨hP1, hD1⟩ := hB
      rw [ht] at hP1
      have hw1 : r_14 = (f_X5_setChannel G (f_L_low (p2 >>> (4 &&& 31)) 6) 1 (f_L_low (p2 >>> (3 &&& 31)) 101)).1 := congrArg Prod.fst hw
      have hw2 : u_14 = (f_X5_setChannel G (f_L_low (p2 >>> (4 &&& 31)) 6) 1 (f_L_low (p2 >>> (3 &&& 31)) 101)).2 := congrArg Prod.snd hw
      clear hw
      subst hw1
      subst hw2
      obtain ⟨hP, hD⟩ := va_join (wc := cDk a cI cC cS G) (wr := []) (w1 := cDk a cI cC cS ((f_X5_setChannel G (f_L_low (p2 >>> (4 &&& 31)) 6) 1 (f_L_low (p2 >>> (3 &&& 31)) 101)).2)) hP hD [0, 1, 2, 3, 4, 5, 6, 7, 8, 9, 10, 11, 12, 13, 14, 15, 16, 17, 18, 19, 20, 21, 22, 23, 24, 25, 26, 27, 28, 29, 30, 31, 32, 33, 34, 35, 36, 37, 38, 39, 40, 41, 42, 43, 44, 45, 46, 47, 48, 49, 50, 51, 52, 53, 54, 55, 56, 57, 58, 59, 60, 61, 62, 63, 64, 65, 66, 67, 68, 69, 70, 71, 72, 73, 74, 75, 76, 77, 78, 79, 80, 81, 82, 83, 84, 85, 86, 87, 88, 89, 90, 91, 92] [] rfl rfl (by decide) (by decide) hk1 hFc hP1 hD1
      have hP : va_P (dC, dI) vwCl (cDk a cI cC cS ((f_X5_setChannel G (f_L_low (p2 >>> (4 &&& 31)) 6) 1 (f_L_low (p2 >>> (3 &&& 31)) 101)).2)) H15 := hP.sub [0, 1, 2, 3, 4, 5, 6, 7, 8, 9, 10, 11, 12, 13, 14, 15, 16, 17, 18, 19, 20, 21, 22, 23, 24, 25, 26, 27, 28, 29, 30, 31, 32, 33, 34, 35, 36, 37, 38, 39, 40, 41, 42, 43, 44, 45, 46, 47, 48, 49, 50, 51, 52, 53, 54, 55, 56, 57, 58, 59, 60, 61, 62, 63, 64, 65, 66, 67, 68, 69, 70, 71, 72, 73, 74, 75, 76, 77, 78, 79, 80, 81, 82, 83, 84, 85, 86, 87, 88, 89, 90, 91, 92] rfl
      have hD : va_D (va_A (cDk a cI cC cS G) s.heap.size) (cDk a cI cC cS ((f_X5_setChannel G (f_L_low (p2 >>> (4 &&& 31)) 6) 1 (f_L_low (p2 >>> (3 &&& 31)) 101)).2)) := hD.sub [0, 1, 2, 3, 4, 5, 6, 7, 8, 9, 10, 11, 12, 13, 14, 15, 16, 17, 18, 19, 20, 21, 22, 23, 24, 25, 26, 27, 28, 29, 30, 31, 32, 33, 34, 35, 36, 37, 38, 39, 40, 41, 42, 43, 44, 45, 46, 47, 48, 49, 50, 51, 52, 53, 54, 55, 56, 57, 58, 59, 60, 61, 62, 63, 64, 65, 66, 67, 68, 69, 70, 71, 72, 73, 74, 75, 76, 77, 78, 79, 80, 81, 82, 83, 84, 85, 86, 87, 88, 89, 90, 91, 92] (by decide) rfl
      obtain ⟨Gn17, eGn17⟩ : ∃ z : GR, z = (f_X5_setChannel G (f_L_low (p2 >>> (4 &&& 31)) 6) 1 (f_L_low (p2 >>> (3 &&& 31)) 101)).2 := ⟨_, rfl⟩
      rw [sLet_eq, ← eGn17] at hR
      rw [← eGn17] at hP hD
      have hG18 : WFG Gn17 := by rw [eGn17]; exact hens16
      exact W.iret (v := (f_X5_setChannel G (f_L_low (p2 >>> (4 &&& 31)) 6) 1 (f_L_low (p2 >>> (3 &&& 31)) 101)).1) hx hb hr (fun t ht hWw => ⟨⟨(f_X5_setChannel G (f_L_low (p2 >>> (4 &&& 31)) 6) 1 (f_L_low (p2 >>> (3 &&& 31)) 101)).1, Gn17, rfl, ⟨hR.symm.trans eR, hG18⟩, by rw [ht]; exact hP, hD⟩, hS.F ht⟩) hS.2.2 dL_act_132
    · rw [if_neg c13] at hR
      rcases Decidable.em ((p2 &&& 15) = 2) with c19 | c19
      · rw [if_pos c19] at hR
        refine lv_tableIn (tgt := 124) hx hb dL_act_33 (by rw [c19]; decide) (by rw [c19]; decide) (by rw [c19]; rfl) (by decide) ?_
        refine lv_aload_n hx hb dL_act_124 rfl (lv_at hl 4 rfl) ?_
        refine lv_iload_n hx hb dL_act_125 rfl (lv_at hl 2 rfl) ?_
        refine lv_iconst (v := 1) hx hb dL_act_126 (by decide) ?_
        refine lv_iload hx hb dL_act_127 (lv_at hl 0 rfl) ?_
        have hPc : va_P (dC, dI) vwCl (cDk a cI cC cS G) H4 := hP.sub [0, 1, 2, 3, 4, 5, 6, 7, 8, 9, 10, 11, 12, 13, 14, 15, 16, 17, 18, 19, 20, 21, 22, 23, 24, 25, 26, 27, 28, 29, 30, 31, 32, 33, 34, 35, 36, 37, 38, 39, 40, 41, 42, 43, 44, 45, 46, 47, 48, 49, 50, 51, 52, 53, 54, 55, 56, 57, 58, 59, 60, 61, 62, 63, 64, 65, 66, 67, 68, 69, 70, 71, 72, 73, 74, 75, 76, 77, 78, 79, 80, 81, 82, 83, 84, 85, 86, 87, 88, 89, 90, 91, 92] rfl
        have hDc : va_D (va_A (cDk a cI cC cS G) s.heap.size) (cDk a cI cC cS G) := hD.sub [0, 1, 2, 3, 4, 5, 6, 7, 8, 9, 10, 11, 12, 13, 14, 15, 16, 17, 18, 19, 20, 21, 22, 23, 24, 25, 26, 27, 28, 29, 30, 31, 32, 33, 34, 35, 36, 37, 38, 39, 40, 41, 42, 43, 44, 45, 46, 47, 48, 49, 50, 51, 52, 53, 54, 55, 56, 57, 58, 59, 60, 61, 62, 63, 64, 65, 66, 67, 68, 69, 70, 71, 72, 73, 74, 75, 76, 77, 78, 79, 80, 81, 82, 83, 84, 85, 86, 87, 88, 89, 90, 91, 92] (by decide) rfl
        have hFc : ∀ q : Nat, va_A (cDk a cI cC cS G) H4.size q → (va_A (cDk a cI cC cS G) s.heap.size) q := va_free hD hS hA [0, 1, 2, 3, 4, 5, 6, 7, 8, 9, 10, 11, 12, 13, 14, 15, 16, 17, 18, 19, 20, 21, 22, 23, 24, 25, 26, 27, 28, 29, 30, 31, 32, 33, 34, 35, 36, 37, 38, 39, 40, 41, 42, 43, 44, 45, 46, 47, 48, 49, 50, 51, 52, 53, 54, 55, 56, 57, 58, 59, 60, 61, 62, 63, 64, 65, 66, 67, 68, 69, 70, 71, 72, 73, 74, 75, 76, 77, 78, 79, 80, 81, 82, 83, 84, 85, 86, 87, 88, 89, 90, 91, 92] rfl
        refine va_calli (va_runV (As := [.int (f_L_low (p2 >>> (4 &&& 31)) 6), .int 1, .int (f_L_low (p2 >>> (3 &&& 31)) 101)]) (rest := []) ⟨hx, hb, hml, hown, hts⟩ (c_X5_setChannel l dC dI cI cC cS a G H4.size (f_L_low (p2 >>> (4 &&& 31)) 6) 1 (f_L_low (p2 >>> (3 &&& 31)) 101) hG) (cwV 3 hts gL_act_X5_setChannel rfl rfl rfl (by decide +kernel) ⟨Nat.le_of_ble_eq_true rfl, Nat.le_of_ble_eq_true rfl⟩) (pVS (q0 := 0) hK hPc hDc hN hT hS hFc rfl rfl) rfl rfl hl.1 rfl (lv_room (Nat.le_of_ble_eq_true rfl)) dL_act_129 ⟨Nat.le_of_ble_eq_true rfl, Nat.le_of_ble_eq_true rfl⟩) hS (fun q _ h => hFc q h) hFc (fun r_20 u_20 t_20 H21 locs ht hvm hw hB hz1 hk1 hS => ?_)
        obtain ⟨hw, hens22⟩ := hw
        obtain ⟨hP1, hD1⟩ := hB
        rw [ht] at hP1
        have hw1 : r_20 = (f_X5_setChannel G (f_L_low (p2 >>> (4 &&& 31)) 6) 1 (f_L_low (p2 >>> (3 &&& 31)) 101)).1 := congrArg Prod.fst hw
        have hw2 : u_20 = (f_X5_setChannel G (f_L_low (p2 >>> (4 &&& 31)) 6) 1 (f_L_low (p2 >>> (3 &&& 31)) 101)).2 := congrArg Prod.snd hw
        clear hw
        subst hw1
        subst hw2
        obtain ⟨hP, hD⟩ := va_join (wc := cDk a cI cC cS G) (wr := []) (w1 := cDk a cI cC cS ((f_X5_setChannel G (f_L_low (p2 >>> (4 &&& 31)) 6) 1 (f_L_low (p2 >>> (3 &&& 31)) 101)).2)) hP hD [0, 1, 2, 3, 4, 5, 6, 7, 8, 9, 10, 11, 12, 13, 14, 15, 16, 17, 18, 19, 20, 21, 22, 23, 24, 25, 26, 27, 28, 29, 30, 31, 32, 33, 34, 35, 36, 37, 38, 39, 40, 41, 42, 43, 44, 45, 46, 47, 48, 49, 50, 51, 52, 53, 54, 55, 56, 57, 58, 59, 60, 61, 62, 63, 64, 65, 66, 67, 68, 69, 70, 71, 72, 73, 74, 75, 76, 77, 78, 79, 80, 81, 82, 83, 84, 85, 86, 87, 88, 89, 90, 91, 92] [] rfl rfl (by decide) (by decide) hk1 hFc hP1 hD1
        have hP : va_P (dC, dI) vwCl (cDk a cI cC cS ((f_X5_setChannel G (f_L_low (p2 >>> (4 &&& 31)) 6) 1 (f_L_low (p2 >>> (3 &&& 31)) 101)).2)) H21 := hP.sub [0, 1, 2, 3, 4, 5, 6, 7, 8, 9, 10, 11, 12, 13, 14, 15, 16, 17, 18, 19, 20, 21, 22, 23, 24, 25, 26, 27, 28, 29, 30, 31, 32, 33, 34, 35, 36, 37, 38, 39, 40, 41, 42, 43, 44, 45, 46, 47, 48, 49, 50, 51, 52, 53, 54, 55, 56, 57, 58, 59, 60, 61, 62, 63, 64, 65, 66, 67, 68, 69, 70, 71, 72, 73, 74, 75, 76, 77, 78, 79, 80, 81, 82, 83, 84, 85, 86, 87, 88, 89, 90, 91, 92] rfl
        have hD : va_D (va_A (cDk a cI cC cS G) s.heap.size) (cDk a cI cC cS ((f_X5_setChannel G (f_L_low (p2 >>> (4 &&& 31)) 6) 1 (f_L_low (p2 >>> (3 &&& 31)) 101)).2)) := hD.sub [0, 1, 2, 3, 4, 5, 6, 7, 8, 9, 10, 11, 12, 13, 14, 15, 16, 17, 18, 19, 20, 21, 22, 23, 24, 25, 26, 27, 28, 29, 30, 31, 32, 33, 34, 35, 36, 37, 38, 39, 40, 41, 42, 43, 44, 45, 46, 47, 48, 49, 50, 51, 52, 53, 54, 55, 56, 57, 58, 59, 60, 61, 62, 63, 64, 65, 66, 67, 68, 69, 70, 71, 72, 73, 74, 75, 76, 77, 78, 79, 80, 81, 82, 83, 84, 85, 86, 87, 88, 89, 90, 91, 92] (by decide) rfl
        obtain ⟨Gn23, eGn23⟩ : ∃ z : GR, z = (f_X5_setChannel G (f_L_low (p2 >>> (4 &&& 31)) 6) 1 (f_L_low (p2 >>> (3 &&& 31)) 101)).2 := ⟨_, rfl⟩
        rw [sLet_eq, ← eGn23] at hR
        rw [← eGn23] at hP hD
        have hG24 : WFG Gn23 := by rw [eGn23]; exact hens22
        exact W.iret (v := (f_X5_setChannel G (f_L_low (p2 >>> (4 &&& 31)) 6) 1 (f_L_low (p2 >>> (3 &&& 31)) 101)).1) hx hb hr (fun t ht hWw => ⟨⟨(f_X5_setChannel G (f_L_low (p2 >>> (4 &&& 31)) 6) 1 (f_L_low (p2 >>> (3 &&& 31)) 101)).1, Gn23, rfl, ⟨hR.symm.trans eR, hG24⟩, by rw [ht]; exact hP, hD⟩, hS.F ht⟩) hS.2.2 dL_act_132
      · rw [if_neg c19] at hR
        rcases Decidable.em ((p2 &&& 15) = 3) with c25 | c25
        · rw [if_pos c25] at hR
          refine lv_tableIn (tgt := 133) hx hb dL_act_33 (by rw [c25]; decide) (by rw [c25]; decide) (by rw [c25]; rfl) (by decide) ?_
          refine lv_aload_n hx hb dL_act_133 rfl (lv_at hl 4 rfl) ?_
          refine lv_iload_n hx hb dL_act_134 rfl (lv_at hl 2 rfl) ?_
          refine lv_iconst (v := 2) hx hb dL_act_135 (by decide) ?_
          refine lv_iload_n hx hb dL_act_136 rfl (lv_at hl 5 rfl) ?_
          refine lv_bipush (v := 8) hx hb dL_act_137 (by decide) ?_
          refine lv_ishr hx hb dL_act_139 ?_
          refine lv_iconst (v := 1) hx hb dL_act_140 (by decide) ?_
          refine lv_iand hx hb dL_act_141 ?_
          refine lv_iadd hx hb dL_act_142 ?_
          refine lv_iload_n hx hb dL_act_143 rfl (lv_at hl 5 rfl) ?_
          refine lv_bipush (v := 7) hx hb dL_act_144 (by decide) ?_
          refine lv_ishr hx hb dL_act_146 ?_
          refine lv_iconst (v := 1) hx hb dL_act_147 (by decide) ?_
          refine lv_iand hx hb dL_act_148 ?_
          have hPc : va_P (dC, dI) vwCl (cDk a cI cC cS G) H4 := hP.sub [0, 1, 2, 3, 4, 5, 6, 7, 8, 9, 10, 11, 12, 13, 14, 15, 16, 17, 18, 19, 20, 21, 22, 23, 24, 25, 26, 27, 28, 29, 30, 31, 32, 33, 34, 35, 36, 37, 38, 39, 40, 41, 42, 43, 44, 45, 46, 47, 48, 49, 50, 51, 52, 53, 54, 55, 56, 57, 58, 59, 60, 61, 62, 63, 64, 65, 66, 67, 68, 69, 70, 71, 72, 73, 74, 75, 76, 77, 78, 79, 80, 81, 82, 83, 84, 85, 86, 87, 88, 89, 90, 91, 92] rfl
          have hDc : va_D (va_A (cDk a cI cC cS G) s.heap.size) (cDk a cI cC cS G) := hD.sub [0, 1, 2, 3, 4, 5, 6, 7, 8, 9, 10, 11, 12, 13, 14, 15, 16, 17, 18, 19, 20, 21, 22, 23, 24, 25, 26, 27, 28, 29, 30, 31, 32, 33, 34, 35, 36, 37, 38, 39, 40, 41, 42, 43, 44, 45, 46, 47, 48, 49, 50, 51, 52, 53, 54, 55, 56, 57, 58, 59, 60, 61, 62, 63, 64, 65, 66, 67, 68, 69, 70, 71, 72, 73, 74, 75, 76, 77, 78, 79, 80, 81, 82, 83, 84, 85, 86, 87, 88, 89, 90, 91, 92] (by decide) rfl
          have hFc : ∀ q : Nat, va_A (cDk a cI cC cS G) H4.size q → (va_A (cDk a cI cC cS G) s.heap.size) q := va_free hD hS hA [0, 1, 2, 3, 4, 5, 6, 7, 8, 9, 10, 11, 12, 13, 14, 15, 16, 17, 18, 19, 20, 21, 22, 23, 24, 25, 26, 27, 28, 29, 30, 31, 32, 33, 34, 35, 36, 37, 38, 39, 40, 41, 42, 43, 44, 45, 46, 47, 48, 49, 50, 51, 52, 53, 54, 55, 56, 57, 58, 59, 60, 61, 62, 63, 64, 65, 66, 67, 68, 69, 70, 71, 72, 73, 74, 75, 76, 77, 78, 79, 80, 81, 82, 83, 84, 85, 86, 87, 88, 89, 90, 91, 92] rfl
          refine va_calli (va_runV (As := [.int (f_L_low (p2 >>> (4 &&& 31)) 6), .int ((2 : Int32) + ((p2 >>> (8 &&& 31)) &&& 1)), .int ((p2 >>> (7 &&& 31)) &&& 1)]) (rest := []) ⟨hx, hb, hml, hown, hts⟩ (c_X5_setChannel l dC dI cI cC cS a G H4.size (f_L_low (p2 >>> (4 &&& 31)) 6) ((2 : Int32) + ((p2 >>> (8 &&& 31)) &&& 1)) ((p2 >>> (7 &&& 31)) &&& 1) hG) (cwV 3 hts gL_act_X5_setChannel rfl rfl rfl (by decide +kernel) ⟨Nat.le_of_ble_eq_true rfl, Nat.le_of_ble_eq_true rfl⟩) (pVS (q0 := 0) hK hPc hDc hN hT hS hFc rfl rfl) rfl rfl hl.1 rfl (lv_room (Nat.le_of_ble_eq_true rfl)) dL_act_149 ⟨Nat.le_of_ble_eq_true rfl, Nat.le_of_ble_eq_true rfl⟩) hS (fun q _ h => hFc q h) hFc (fun r_26 u_26 t_26 H27 locs ht hvm hw hB hz1 hk1 hS => ?_)
          obtain ⟨hw, hens28⟩ := hw
          obtain ⟨hP1, hD1⟩ := hB
          rw [ht] at hP1
          have hw1 : r_26 = (f_X5_setChannel G (f_L_low (p2 >>> (4 &&& 31)) 6) ((2 : Int32) + ((p2 >>> (8 &&& 31)) &&& 1)) ((p2 >>> (7 &&& 31)) &&& 1)).1 := congrArg Prod.fst hw
          have hw2 : u_26 = (f_X5_setChannel G (f_L_low (p2 >>> (4 &&& 31)) 6) ((2 : Int32) + ((p2 >>> (8 &&& 31)) &&& 1)) ((p2 >>> (7 &&& 31)) &&& 1)).2 := congrArg Prod.snd hw
          clear hw
          subst hw1
          subst hw2
          obtain ⟨hP, hD⟩ := va_join (wc := cDk a cI cC cS G) (wr := []) (w1 := cDk a cI cC cS ((f_X5_setChannel G (f_L_low (p2 >>> (4 &&& 31)) 6) ((2 : Int32) + ((p2 >>> (8 &&& 31)) &&& 1)) ((p2 >>> (7 &&& 31)) &&& 1)).2)) hP hD [0, 1, 2, 3, 4, 5, 6, 7, 8, 9, 10, 11, 12, 13, 14, 15, 16, 17, 18, 19, 20, 21, 22, 23, 24, 25, 26, 27, 28, 29, 30, 31, 32, 33, 34, 35, 36, 37, 38, 39, 40, 41, 42, 43, 44, 45, 46, 47, 48, 49, 50, 51, 52, 53, 54, 55, 56, 57, 58, 59, 60, 61, 62, 63, 64, 65, 66, 67, 68, 69, 70, 71, 72, 73, 74, 75, 76, 77, 78, 79, 80, 81, 82, 83, 84, 85, 86, 87, 88, 89, 90, 91, 92] [] rfl rfl (by decide) (by decide) hk1 hFc hP1 hD1
          have hP : va_P (dC, dI) vwCl (cDk a cI cC cS ((f_X5_setChannel G (f_L_low (p2 >>> (4 &&& 31)) 6) ((2 : Int32) + ((p2 >>> (8 &&& 31)) &&& 1)) ((p2 >>> (7 &&& 31)) &&& 1)).2)) H27 := hP.sub [0, 1, 2, 3, 4, 5, 6, 7, 8, 9, 10, 11, 12, 13, 14, 15, 16, 17, 18, 19, 20, 21, 22, 23, 24, 25, 26, 27, 28, 29, 30, 31, 32, 33, 34, 35, 36, 37, 38, 39, 40, 41, 42, 43, 44, 45, 46, 47, 48, 49, 50, 51, 52, 53, 54, 55, 56, 57, 58, 59, 60, 61, 62, 63, 64, 65, 66, 67, 68, 69, 70, 71, 72, 73, 74, 75, 76, 77, 78, 79, 80, 81, 82, 83, 84, 85, 86, 87, 88, 89, 90, 91, 92] rfl
          have hD : va_D (va_A (cDk a cI cC cS G) s.heap.size) (cDk a cI cC cS ((f_X5_setChannel G (f_L_low (p2 >>> (4 &&& 31)) 6) ((2 : Int32) + ((p2 >>> (8 &&& 31)) &&& 1)) ((p2 >>> (7 &&& 31)) &&& 1)).2)) := hD.sub [0, 1, 2, 3, 4, 5, 6, 7, 8, 9, 10, 11, 12, 13, 14, 15, 16, 17, 18, 19, 20, 21, 22, 23, 24, 25, 26, 27, 28, 29, 30, 31, 32, 33, 34, 35, 36, 37, 38, 39, 40, 41, 42, 43, 44, 45, 46, 47, 48, 49, 50, 51, 52, 53, 54, 55, 56, 57, 58, 59, 60, 61, 62, 63, 64, 65, 66, 67, 68, 69, 70, 71, 72, 73, 74, 75, 76, 77, 78, 79, 80, 81, 82, 83, 84, 85, 86, 87, 88, 89, 90, 91, 92] (by decide) rfl
          obtain ⟨Gn29, eGn29⟩ : ∃ z : GR, z = (f_X5_setChannel G (f_L_low (p2 >>> (4 &&& 31)) 6) ((2 : Int32) + ((p2 >>> (8 &&& 31)) &&& 1)) ((p2 >>> (7 &&& 31)) &&& 1)).2 := ⟨_, rfl⟩
          rw [sLet_eq, ← eGn29] at hR
          rw [← eGn29] at hP hD
          have hG30 : WFG Gn29 := by rw [eGn29]; exact hens28
          exact W.iret (v := (f_X5_setChannel G (f_L_low (p2 >>> (4 &&& 31)) 6) ((2 : Int32) + ((p2 >>> (8 &&& 31)) &&& 1)) ((p2 >>> (7 &&& 31)) &&& 1)).1) hx hb hr (fun t ht hWw => ⟨⟨(f_X5_setChannel G (f_L_low (p2 >>> (4 &&& 31)) 6) ((2 : Int32) + ((p2 >>> (8 &&& 31)) &&& 1)) ((p2 >>> (7 &&& 31)) &&& 1)).1, Gn29, rfl, ⟨hR.symm.trans eR, hG30⟩, by rw [ht]; exact hP, hD⟩, hS.F ht⟩) hS.2.2 dL_act_152
        · rw [if_neg c25] at hR
          rcases Decidable.em ((p2 &&& 15) = 4) with c31 | c31
          · rw [if_pos c31] at hR
            refine lv_tableIn (tgt := 153) hx hb dL_act_33 (by rw [c31]; decide) (by rw [c31]; decide) (by rw [c31]; rfl) (by decide) ?_
            refine lv_aload_n hx hb dL_act_153 rfl (lv_at hl 4 rfl) ?_
            refine lv_iload_n hx hb dL_act_154 rfl (lv_at hl 2 rfl) ?_
            refine lv_iconst (v := 4) hx hb dL_act_155 (by decide) ?_
            refine lv_iload_n hx hb dL_act_156 rfl (lv_at hl 5 rfl) ?_
            refine lv_bipush (v := 6) hx hb dL_act_157 (by decide) ?_
            refine lv_ishr hx hb dL_act_159 ?_
            refine lv_bipush (v := 15) hx hb dL_act_160 (by decide) ?_
            refine lv_iand hx hb dL_act_162 ?_
            have hPc : va_P (dC, dI) vwCl (cDk a cI cC cS G) H4 := hP.sub [0, 1, 2, 3, 4, 5, 6, 7, 8, 9, 10, 11, 12, 13, 14, 15, 16, 17, 18, 19, 20, 21, 22, 23, 24, 25, 26, 27, 28, 29, 30, 31, 32, 33, 34, 35, 36, 37, 38, 39, 40, 41, 42, 43, 44, 45, 46, 47, 48, 49, 50, 51, 52, 53, 54, 55, 56, 57, 58, 59, 60, 61, 62, 63, 64, 65, 66, 67, 68, 69, 70, 71, 72, 73, 74, 75, 76, 77, 78, 79, 80, 81, 82, 83, 84, 85, 86, 87, 88, 89, 90, 91, 92] rfl
            have hDc : va_D (va_A (cDk a cI cC cS G) s.heap.size) (cDk a cI cC cS G) := hD.sub [0, 1, 2, 3, 4, 5, 6, 7, 8, 9, 10, 11, 12, 13, 14, 15, 16, 17, 18, 19, 20, 21, 22, 23, 24, 25, 26, 27, 28, 29, 30, 31, 32, 33, 34, 35, 36, 37, 38, 39, 40, 41, 42, 43, 44, 45, 46, 47, 48, 49, 50, 51, 52, 53, 54, 55, 56, 57, 58, 59, 60, 61, 62, 63, 64, 65, 66, 67, 68, 69, 70, 71, 72, 73, 74, 75, 76, 77, 78, 79, 80, 81, 82, 83, 84, 85, 86, 87, 88, 89, 90, 91, 92] (by decide) rfl
            have hFc : ∀ q : Nat, va_A (cDk a cI cC cS G) H4.size q → (va_A (cDk a cI cC cS G) s.heap.size) q := va_free hD hS hA [0, 1, 2, 3, 4, 5, 6, 7, 8, 9, 10, 11, 12, 13, 14, 15, 16, 17, 18, 19, 20, 21, 22, 23, 24, 25, 26, 27, 28, 29, 30, 31, 32, 33, 34, 35, 36, 37, 38, 39, 40, 41, 42, 43, 44, 45, 46, 47, 48, 49, 50, 51, 52, 53, 54, 55, 56, 57, 58, 59, 60, 61, 62, 63, 64, 65, 66, 67, 68, 69, 70, 71, 72, 73, 74, 75, 76, 77, 78, 79, 80, 81, 82, 83, 84, 85, 86, 87, 88, 89, 90, 91, 92] rfl
            refine va_calli (va_runV (As := [.int (f_L_low (p2 >>> (4 &&& 31)) 6), .int 4, .int ((p2 >>> (6 &&& 31)) &&& 15)]) (rest := []) ⟨hx, hb, hml, hown, hts⟩ (c_X5_setChannel l dC dI cI cC cS a G H4.size (f_L_low (p2 >>> (4 &&& 31)) 6) 4 ((p2 >>> (6 &&& 31)) &&& 15) hG) (cwV 3 hts gL_act_X5_setChannel rfl rfl rfl (by decide +kernel) ⟨Nat.le_of_ble_eq_true rfl, Nat.le_of_ble_eq_true rfl⟩) (pVS (q0 := 0) hK hPc hDc hN hT hS hFc rfl rfl) rfl rfl hl.1 rfl (lv_room (Nat.le_of_ble_eq_true rfl)) dL_act_163 ⟨Nat.le_of_ble_eq_true rfl, Nat.le_of_ble_eq_true rfl⟩) hS (fun q _ h => hFc q h) hFc (fun r_32 u_32 t_32 H33 locs ht hvm hw hB hz1 hk1 hS => ?_)
            obtain ⟨hw, hens34⟩ := hw
            obtain ⟨hP1, hD1⟩ := hB
            rw [ht] at hP1
            have hw1 : r_32 = (f_X5_setChannel G (f_L_low (p2 >>> (4 &&& 31)) 6) 4 ((p2 >>> (6 &&& 31)) &&& 15)).1 := congrArg Prod.fst hw
            have hw2 : u_32 = (f_X5_setChannel G (f_L_low (p2 >>> (4 &&& 31)) 6) 4 ((p2 >>> (6 &&& 31)) &&& 15)).2 := congrArg Prod.snd hw
            clear hw
            subst hw1
            subst hw2
            obtain ⟨hP, hD⟩ := va_join (wc := cDk a cI cC cS G) (wr := []) (w1 := cDk a cI cC cS ((f_X5_setChannel G (f_L_low (p2 >>> (4 &&& 31)) 6) 4 ((p2 >>> (6 &&& 31)) &&& 15)).2)) hP hD [0, 1, 2, 3, 4, 5, 6, 7, 8, 9, 10, 11, 12, 13, 14, 15, 16, 17, 18, 19, 20, 21, 22, 23, 24, 25, 26, 27, 28, 29, 30, 31, 32, 33, 34, 35, 36, 37, 38, 39, 40, 41, 42, 43, 44, 45, 46, 47, 48, 49, 50, 51, 52, 53, 54, 55, 56, 57, 58, 59, 60, 61, 62, 63, 64, 65, 66, 67, 68, 69, 70, 71, 72, 73, 74, 75, 76, 77, 78, 79, 80, 81, 82, 83, 84, 85, 86, 87, 88, 89, 90, 91, 92] [] rfl rfl (by decide) (by decide) hk1 hFc hP1 hD1
            have hP : va_P (dC, dI) vwCl (cDk a cI cC cS ((f_X5_setChannel G (f_L_low (p2 >>> (4 &&& 31)) 6) 4 ((p2 >>> (6 &&& 31)) &&& 15)).2)) H33 := hP.sub [0, 1, 2, 3, 4, 5, 6, 7, 8, 9, 10, 11, 12, 13, 14, 15, 16, 17, 18, 19, 20, 21, 22, 23, 24, 25, 26, 27, 28, 29, 30, 31, 32, 33, 34, 35, 36, 37, 38, 39, 40, 41, 42, 43, 44, 45, 46, 47, 48, 49, 50, 51, 52, 53, 54, 55, 56, 57, 58, 59, 60, 61, 62, 63, 64, 65, 66, 67, 68, 69, 70, 71, 72, 73, 74, 75, 76, 77, 78, 79, 80, 81, 82, 83, 84, 85, 86, 87, 88, 89, 90, 91, 92] rfl
            have hD : va_D (va_A (cDk a cI cC cS G) s.heap.size) (cDk a cI cC cS ((f_X5_setChannel G (f_L_low (p2 >>> (4 &&& 31)) 6) 4 ((p2 >>> (6 &&& 31)) &&& 15)).2)) := hD.sub [0, 1, 2, 3, 4, 5, 6, 7, 8, 9, 10, 11, 12, 13, 14, 15, 16, 17, 18, 19, 20, 21, 22, 23, 24, 25, 26, 27, 28, 29, 30, 31, 32, 33, 34, 35, 36, 37, 38, 39, 40, 41, 42, 43, 44, 45, 46, 47, 48, 49, 50, 51, 52, 53, 54, 55, 56, 57, 58, 59, 60, 61, 62, 63, 64, 65, 66, 67, 68, 69, 70, 71, 72, 73, 74, 75, 76, 77, 78, 79, 80, 81, 82, 83, 84, 85, 86, 87, 88, 89, 90, 91, 92] (by decide) rfl
            obtain ⟨Gn35, eGn35⟩ : ∃ z : GR, z = (f_X5_setChannel G (f_L_low (p2 >>> (4 &&& 31)) 6) 4 ((p2 >>> (6 &&& 31)) &&& 15)).2 := ⟨_, rfl⟩
            rw [sLet_eq, ← eGn35] at hR
            rw [← eGn35] at hP hD
            have hG36 : WFG Gn35 := by rw [eGn35]; exact hens34
            exact W.iret (v := (f_X5_setChannel G (f_L_low (p2 >>> (4 &&& 31)) 6) 4 ((p2 >>> (6 &&& 31)) &&& 15)).1) hx hb hr (fun t ht hWw => ⟨⟨(f_X5_setChannel G (f_L_low (p2 >>> (4 &&& 31)) 6) 4 ((p2 >>> (6 &&& 31)) &&& 15)).1, Gn35, rfl, ⟨hR.symm.trans eR, hG36⟩, by rw [ht]; exact hP, hD⟩, hS.F ht⟩) hS.2.2 dL_act_166
          · rw [if_neg c31] at hR
            rcases Decidable.em ((p2 &&& 15) = 5) with c37 | c37
            · rw [if_pos c37] at hR
              refine lv_tableIn (tgt := 167) hx hb dL_act_33 (by rw [c37]; decide) (by rw [c37]; decide) (by rw [c37]; rfl) (by decide) ?_
              refine lv_aload_n hx hb dL_act_167 rfl (lv_at hl 4 rfl) ?_
              refine lv_iload hx hb dL_act_168 (lv_at hl 1 rfl) ?_
              refine lv_iload_n hx hb dL_act_170 rfl (lv_at hl 5 rfl) ?_
              refine lv_bipush (v := 9) hx hb dL_act_171 (by decide) ?_
              refine lv_ishr hx hb dL_act_173 ?_
              refine lv_iconst (v := 1) hx hb dL_act_174 (by decide) ?_
              refine lv_iand hx hb dL_act_175 ?_
              refine lv_iload_n hx hb dL_act_176 rfl (lv_at hl 5 rfl) ?_
              refine lv_bipush (v := 9) hx hb dL_act_177 (by decide) ?_
              refine lv_ishr hx hb dL_act_179 ?_
              refine lv_iconst (v := 1) hx hb dL_act_180 (by decide) ?_
              refine lv_iand hx hb dL_act_181 ?_
              refine lv_if_ne (tgt := 190) hx hb dL_act_182 (by decide) (fun c38 => ?_) (fun c38 => ?_)
              · rw [if_neg c38] at hR
                refine lv_iload_n hx hb dL_act_190 rfl (lv_at hl 5 rfl) ?_
                refine lv_iconst (v := 4) hx hb dL_act_191 (by decide) ?_
                refine lv_ishr hx hb dL_act_192 ?_
                refine lv_iconst (v := 1) hx hb dL_act_193 (by decide) ?_
                refine lv_iand hx hb dL_act_194 ?_
                have hPc : va_P (dC, dI) vwCl (cDk a cI cC cS G) H4 := hP.sub [0, 1, 2, 3, 4, 5, 6, 7, 8, 9, 10, 11, 12, 13, 14, 15, 16, 17, 18, 19, 20, 21, 22, 23, 24, 25, 26, 27, 28, 29, 30, 31, 32, 33, 34, 35, 36, 37, 38, 39, 40, 41, 42, 43, 44, 45, 46, 47, 48, 49, 50, 51, 52, 53, 54, 55, 56, 57, 58, 59, 60, 61, 62, 63, 64, 65, 66, 67, 68, 69, 70, 71, 72, 73, 74, 75, 76, 77, 78, 79, 80, 81, 82, 83, 84, 85, 86, 87, 88, 89, 90, 91, 92] rfl
                have hDc : va_D (va_A (cDk a cI cC cS G) s.heap.size) (cDk a cI cC cS G) := hD.sub [0, 1, 2, 3, 4, 5, 6, 7, 8, 9, 10, 11, 12, 13, 14, 15, 16, 17, 18, 19, 20, 21, 22, 23, 24, 25, 26, 27, 28, 29, 30, 31, 32, 33, 34, 35, 36, 37, 38, 39, 40, 41, 42, 43, 44, 45, 46, 47, 48, 49, 50, 51, 52, 53, 54, 55, 56, 57, 58, 59, 60, 61, 62, 63, 64, 65, 66, 67, 68, 69, 70, 71, 72, 73, 74, 75, 76, 77, 78, 79, 80, 81, 82, 83, 84, 85, 86, 87, 88, 89, 90, 91, 92] (by decide) rfl
                have hFc : ∀ q : Nat, va_A (cDk a cI cC cS G) H4.size q → (va_A (cDk a cI cC cS G) s.heap.size) q := va_free hD hS hA [0, 1, 2, 3, 4, 5, 6, 7, 8, 9, 10, 11, 12, 13, 14, 15, 16, 17, 18, 19, 20, 21, 22, 23, 24, 25, 26, 27, 28, 29, 30, 31, 32, 33, 34, 35, 36, 37, 38, 39, 40, 41, 42, 43, 44, 45, 46, 47, 48, 49, 50, 51, 52, 53, 54, 55, 56, 57, 58, 59, 60, 61, 62, 63, 64, 65, 66, 67, 68, 69, 70, 71, 72, 73, 74, 75, 76, 77, 78, 79, 80, 81, 82, 83, 84, 85, 86, 87, 88, 89, 90, 91, 92] rfl
                refine va_calli (va_runV (As := [.int ((p2 >>> (7 &&& 31)) &&& 3), .int ((p2 >>> (9 &&& 31)) &&& 1), .int ((p2 >>> (4 &&& 31)) &&& 1)]) (rest := []) ⟨hx, hb, hml, hown, hts⟩ (c_X5_setGroup l dC dI cI cC cS a G H4.size ((p2 >>> (7 &&& 31)) &&& 3) ((p2 >>> (9 &&& 31)) &&& 1) ((p2 >>> (4 &&& 31)) &&& 1) hG) (cwV 3 hts gL_act_X5_setGroup rfl rfl rfl (by decide +kernel) ⟨Nat.le_of_ble_eq_true rfl, Nat.le_of_ble_eq_true rfl⟩) (pVS (q0 := 0) hK hPc hDc hN hT hS hFc rfl rfl) rfl rfl hl.1 rfl (lv_room (Nat.le_of_ble_eq_true rfl)) dL_act_195 ⟨Nat.le_of_ble_eq_true rfl, Nat.le_of_ble_eq_true rfl⟩) hS (fun q _ h => hFc q h) hFc (fun r_39 u_39 t_39 H40 locs ht hvm hw hB hz1 hk1 hS => ?_)
                obtain ⟨hw, hens41⟩ := hw
                obtain ⟨hP1, hD1⟩ := hB
                rw [ht] at hP1
                have hw1 : r_39 = (f_X5_setGroup G ((p2 >>> (7 &&& 31)) &&& 3) ((p2 >>> (9 &&& 31)) &&& 1) ((p2 >>> (4 &&& 31)) &&& 1)).1 := congrArg Prod.fst hw
                have hw2 : u_39 = (f_X5_setGroup G ((p2 >>> (7 &&& 31)) &&& 3) ((p2 >>> (9 &&& 31)) &&& 1) ((p2 >>> (4 &&& 31)) &&& 1)).2 := congrArg Prod.snd hw
                clear hw
                subst hw1
                subst hw2
                obtain ⟨hP, hD⟩ := va_join (wc := cDk a cI cC cS G) (wr := []) (w1 := cDk a cI cC cS ((f_X5_setGroup G ((p2 >>> (7 &&& 31)) &&& 3) ((p2 >>> (9 &&& 31)) &&& 1) ((p2 >>> (4 &&& 31)) &&& 1)).2)) hP hD [0, 1, 2, 3, 4, 5, 6, 7, 8, 9, 10, 11, 12, 13, 14, 15, 16, 17, 18, 19, 20, 21, 22, 23, 24, 25, 26, 27, 28, 29, 30, 31, 32, 33, 34, 35, 36, 37, 38, 39, 40, 41, 42, 43, 44, 45, 46, 47, 48, 49, 50, 51, 52, 53, 54, 55, 56, 57, 58, 59, 60, 61, 62, 63, 64, 65, 66, 67, 68, 69, 70, 71, 72, 73, 74, 75, 76, 77, 78, 79, 80, 81, 82, 83, 84, 85, 86, 87, 88, 89, 90, 91, 92] [] rfl rfl (by decide) (by decide) hk1 hFc hP1 hD1
                have hP : va_P (dC, dI) vwCl (cDk a cI cC cS ((f_X5_setGroup G ((p2 >>> (7 &&& 31)) &&& 3) ((p2 >>> (9 &&& 31)) &&& 1) ((p2 >>> (4 &&& 31)) &&& 1)).2)) H40 := hP.sub [0, 1, 2, 3, 4, 5, 6, 7, 8, 9, 10, 11, 12, 13, 14, 15, 16, 17, 18, 19, 20, 21, 22, 23, 24, 25, 26, 27, 28, 29, 30, 31, 32, 33, 34, 35, 36, 37, 38, 39, 40, 41, 42, 43, 44, 45, 46, 47, 48, 49, 50, 51, 52, 53, 54, 55, 56, 57, 58, 59, 60, 61, 62, 63, 64, 65, 66, 67, 68, 69, 70, 71, 72, 73, 74, 75, 76, 77, 78, 79, 80, 81, 82, 83, 84, 85, 86, 87, 88, 89, 90, 91, 92] rfl
                have hD : va_D (va_A (cDk a cI cC cS G) s.heap.size) (cDk a cI cC cS ((f_X5_setGroup G ((p2 >>> (7 &&& 31)) &&& 3) ((p2 >>> (9 &&& 31)) &&& 1) ((p2 >>> (4 &&& 31)) &&& 1)).2)) := hD.sub [0, 1, 2, 3, 4, 5, 6, 7, 8, 9, 10, 11, 12, 13, 14, 15, 16, 17, 18, 19, 20, 21, 22, 23, 24, 25, 26, 27, 28, 29, 30, 31, 32, 33, 34, 35, 36, 37, 38, 39, 40, 41, 42, 43, 44, 45, 46, 47, 48, 49, 50, 51, 52, 53, 54, 55, 56, 57, 58, 59, 60, 61, 62, 63, 64, 65, 66, 67, 68, 69, 70, 71, 72, 73, 74, 75, 76, 77, 78, 79, 80, 81, 82, 83, 84, 85, 86, 87, 88, 89, 90, 91, 92] (by decide) rfl
                obtain ⟨Gn42, eGn42⟩ : ∃ z : GR, z = (f_X5_setGroup G ((p2 >>> (7 &&& 31)) &&& 3) ((p2 >>> (9 &&& 31)) &&& 1) ((p2 >>> (4 &&& 31)) &&& 1)).2 := ⟨_, rfl⟩
                rw [sLet_eq, ← eGn42] at hR
                rw [← eGn42] at hP hD
                have hG43 : WFG Gn42 := by rw [eGn42]; exact hens41
                exact W.iret (v := (f_X5_setGroup G ((p2 >>> (7 &&& 31)) &&& 3) ((p2 >>> (9 &&& 31)) &&& 1) ((p2 >>> (4 &&& 31)) &&& 1)).1) hx hb hr (fun t ht hWw => ⟨⟨(f_X5_setGroup G ((p2 >>> (7 &&& 31)) &&& 3) ((p2 >>> (9 &&& 31)) &&& 1) ((p2 >>> (4 &&& 31)) &&& 1)).1, Gn42, rfl, ⟨hR.symm.trans eR, hG43⟩, by rw [ht]; exact hP, hD⟩, hS.F ht⟩) hS.2.2 dL_act_198
              · rw [if_pos c38] at hR
                refine lv_iload hx hb dL_act_185 (lv_at hl 0 rfl) ?_
                refine lv_goto (tgt := 195) hx hb dL_act_187 (by decide) ?_
                have hPc : va_P (dC, dI) vwCl (cDk a cI cC cS G) H4 := hP.sub [0, 1, 2, 3, 4, 5, 6, 7, 8, 9, 10, 11, 12, 13, 14, 15, 16, 17, 18, 19, 20, 21, 22, 23, 24, 25, 26, 27, 28, 29, 30, 31, 32, 33, 34, 35, 36, 37, 38, 39, 40, 41, 42, 43, 44, 45, 46, 47, 48, 49, 50, 51, 52, 53, 54, 55, 56, 57, 58, 59, 60, 61, 62, 63, 64, 65, 66, 67, 68, 69, 70, 71, 72, 73, 74, 75, 76, 77, 78, 79, 80, 81, 82, 83, 84, 85, 86, 87, 88, 89, 90, 91, 92] rfl
                have hDc : va_D (va_A (cDk a cI cC cS G) s.heap.size) (cDk a cI cC cS G) := hD.sub [0, 1, 2, 3, 4, 5, 6, 7, 8, 9, 10, 11, 12, 13, 14, 15, 16, 17, 18, 19, 20, 21, 22, 23, 24, 25, 26, 27, 28, 29, 30, 31, 32, 33, 34, 35, 36, 37, 38, 39, 40, 41, 42, 43, 44, 45, 46, 47, 48, 49, 50, 51, 52, 53, 54, 55, 56, 57, 58, 59, 60, 61, 62, 63, 64, 65, 66, 67, 68, 69, 70, 71, 72, 73, 74, 75, 76, 77, 78, 79, 80, 81, 82, 83, 84, 85, 86, 87, 88, 89, 90, 91, 92] (by decide) rfl
                have hFc : ∀ q : Nat, va_A (cDk a cI cC cS G) H4.size q → (va_A (cDk a cI cC cS G) s.heap.size) q := va_free hD hS hA [0, 1, 2, 3, 4, 5, 6, 7, 8, 9, 10, 11, 12, 13, 14, 15, 16, 17, 18, 19, 20, 21, 22, 23, 24, 25, 26, 27, 28, 29, 30, 31, 32, 33, 34, 35, 36, 37, 38, 39, 40, 41, 42, 43, 44, 45, 46, 47, 48, 49, 50, 51, 52, 53, 54, 55, 56, 57, 58, 59, 60, 61, 62, 63, 64, 65, 66, 67, 68, 69, 70, 71, 72, 73, 74, 75, 76, 77, 78, 79, 80, 81, 82, 83, 84, 85, 86, 87, 88, 89, 90, 91, 92] rfl
                refine va_calli (va_runV (As := [.int ((p2 >>> (7 &&& 31)) &&& 3), .int ((p2 >>> (9 &&& 31)) &&& 1), .int (f_L_low (p2 >>> (3 &&& 31)) 101)]) (rest := []) ⟨hx, hb, hml, hown, hts⟩ (c_X5_setGroup l dC dI cI cC cS a G H4.size ((p2 >>> (7 &&& 31)) &&& 3) ((p2 >>> (9 &&& 31)) &&& 1) (f_L_low (p2 >>> (3 &&& 31)) 101) hG) (cwV 3 hts gL_act_X5_setGroup rfl rfl rfl (by decide +kernel) ⟨Nat.le_of_ble_eq_true rfl, Nat.le_of_ble_eq_true rfl⟩) (pVS (q0 := 0) hK hPc hDc hN hT hS hFc rfl rfl) rfl rfl hl.1 rfl (lv_room (Nat.le_of_ble_eq_true rfl)) dL_act_195 ⟨Nat.le_of_ble_eq_true rfl, Nat.le_of_ble_eq_true rfl⟩) hS (fun q _ h => hFc q h) hFc (fun r_44 u_44 t_44 H45 locs ht hvm hw hB hz1 hk1 hS => ?_)
                obtain ⟨hw, hens46⟩ := hw
                obtain ⟨hP1, hD1⟩ := hB
                rw [ht] at hP1
                have hw1 : r_44 = (f_X5_setGroup G ((p2 >>> (7 &&& 31)) &&& 3) ((p2 >>> (9 &&& 31)) &&& 1) (f_L_low (p2 >>> (3 &&& 31)) 101)).1 := congrArg Prod.fst hw
                have hw2 : u_44 = (f_X5_setGroup G ((p2 >>> (7 &&& 31)) &&& 3) ((p2 >>> (9 &&& 31)) &&& 1) (f_L_low (p2 >>> (3 &&& 31)) 101)).2 := congrArg Prod.snd hw
                clear hw
                subst hw1
                subst hw2
                obtain ⟨hP, hD⟩ := va_join (wc := cDk a cI cC cS G) (wr := []) (w1 := cDk a cI cC cS ((f_X5_setGroup G ((p2 >>> (7 &&& 31)) &&& 3) ((p2 >>> (9 &&& 31)) &&& 1) (f_L_low (p2 >>> (3 &&& 31)) 101)).2)) hP hD [0, 1, 2, 3, 4, 5, 6, 7, 8, 9, 10, 11, 12, 13, 14, 15, 16, 17, 18, 19, 20, 21, 22, 23, 24, 25, 26, 27, 28, 29, 30, 31, 32, 33, 34, 35, 36, 37, 38, 39, 40, 41, 42, 43, 44, 45, 46, 47, 48, 49, 50, 51, 52, 53, 54, 55, 56, 57, 58, 59, 60, 61, 62, 63, 64, 65, 66, 67, 68, 69, 70, 71, 72, 73, 74, 75, 76, 77, 78, 79, 80, 81, 82, 83, 84, 85, 86, 87, 88, 89, 90, 91, 92] [] rfl rfl (by decide) (by decide) hk1 hFc hP1 hD1
                have hP : va_P (dC, dI) vwCl (cDk a cI cC cS ((f_X5_setGroup G ((p2 >>> (7 &&& 31)) &&& 3) ((p2 >>> (9 &&& 31)) &&& 1) (f_L_low (p2 >>> (3 &&& 31)) 101)).2)) H45 := hP.sub [0, 1, 2, 3, 4, 5, 6, 7, 8, 9, 10, 11, 12, 13, 14, 15, 16, 17, 18, 19, 20, 21, 22, 23, 24, 25, 26, 27, 28, 29, 30, 31, 32, 33, 34, 35, 36, 37, 38, 39, 40, 41, 42, 43, 44, 45, 46, 47, 48, 49, 50, 51, 52, 53, 54, 55, 56, 57, 58, 59, 60, 61, 62, 63, 64, 65, 66, 67, 68, 69, 70, 71, 72, 73, 74, 75, 76, 77, 78, 79, 80, 81, 82, 83, 84, 85, 86, 87, 88, 89, 90, 91, 92] rfl
                have hD : va_D (va_A (cDk a cI cC cS G) s.heap.size) (cDk a cI cC cS ((f_X5_setGroup G ((p2 >>> (7 &&& 31)) &&& 3) ((p2 >>> (9 &&& 31)) &&& 1) (f_L_low (p2 >>> (3 &&& 31)) 101)).2)) := hD.sub [0, 1, 2, 3, 4, 5, 6, 7, 8, 9, 10, 11, 12, 13, 14, 15, 16, 17, 18, 19, 20, 21, 22, 23, 24, 25, 26, 27, 28, 29, 30, 31, 32, 33, 34, 35, 36, 37, 38, 39, 40, 41, 42, 43, 44, 45, 46, 47, 48, 49, 50, 51, 52, 53, 54, 55, 56, 57, 58, 59, 60, 61, 62, 63, 64, 65, 66, 67, 68, 69, 70, 71, 72, 73, 74, 75, 76, 77, 78, 79, 80, 81, 82, 83, 84, 85, 86, 87, 88, 89, 90, 91, 92] (by decide) rfl
                obtain ⟨Gn47, eGn47⟩ : ∃ z : GR, z = (f_X5_setGroup G ((p2 >>> (7 &&& 31)) &&& 3) ((p2 >>> (9 &&& 31)) &&& 1) (f_L_low (p2 >>> (3 &&& 31)) 101)).2 := ⟨_, rfl⟩
                rw [sLet_eq, ← eGn47] at hR
                rw [← eGn47] at hP hD
                have hG48 : WFG Gn47 := by rw [eGn47]; exact hens46
                exact W.iret (v := (f_X5_setGroup G ((p2 >>> (7 &&& 31)) &&& 3) ((p2 >>> (9 &&& 31)) &&& 1) (f_L_low (p2 >>> (3 &&& 31)) 101)).1) hx hb hr (fun t ht hWw => ⟨⟨(f_X5_setGroup G ((p2 >>> (7 &&& 31)) &&& 3) ((p2 >>> (9 &&& 31)) &&& 1) (f_L_low (p2 >>> (3 &&& 31)) 101)).1, Gn47, rfl, ⟨hR.symm.trans eR, hG48⟩, by rw [ht]; exact hP, hD⟩, hS.F ht⟩) hS.2.2 dL_act_198
            · rw [if_neg c37] at hR
              rcases Decidable.em ((p2 &&& 15) = 6) with c49 | c49
              · rw [if_pos c49] at hR
                refine lv_tableIn (tgt := 199) hx hb dL_act_33 (by rw [c49]; decide) (by rw [c49]; decide) (by rw [c49]; rfl) (by decide) ?_
                refine lv_aload_n hx hb dL_act_199 rfl (lv_at hl 4 rfl) ?_
                refine lv_iload hx hb dL_act_200 (lv_at hl 1 rfl) ?_
                refine lv_iload_n hx hb dL_act_202 rfl (lv_at hl 2 rfl) ?_
                refine lv_iload hx hb dL_act_203 (lv_at hl 0 rfl) ?_
                have hPc : va_P (dC, dI) vwCl (cDk a cI cC cS G) H4 := hP.sub [0, 1, 2, 3, 4, 5, 6, 7, 8, 9, 10, 11, 12, 13, 14, 15, 16, 17, 18, 19, 20, 21, 22, 23, 24, 25, 26, 27, 28, 29, 30, 31, 32, 33, 34, 35, 36, 37, 38, 39, 40, 41, 42, 43, 44, 45, 46, 47, 48, 49, 50, 51, 52, 53, 54, 55, 56, 57, 58, 59, 60, 61, 62, 63, 64, 65, 66, 67, 68, 69, 70, 71, 72, 73, 74, 75, 76, 77, 78, 79, 80, 81, 82, 83, 84, 85, 86, 87, 88, 89, 90, 91, 92] rfl
                have hDc : va_D (va_A (cDk a cI cC cS G) s.heap.size) (cDk a cI cC cS G) := hD.sub [0, 1, 2, 3, 4, 5, 6, 7, 8, 9, 10, 11, 12, 13, 14, 15, 16, 17, 18, 19, 20, 21, 22, 23, 24, 25, 26, 27, 28, 29, 30, 31, 32, 33, 34, 35, 36, 37, 38, 39, 40, 41, 42, 43, 44, 45, 46, 47, 48, 49, 50, 51, 52, 53, 54, 55, 56, 57, 58, 59, 60, 61, 62, 63, 64, 65, 66, 67, 68, 69, 70, 71, 72, 73, 74, 75, 76, 77, 78, 79, 80, 81, 82, 83, 84, 85, 86, 87, 88, 89, 90, 91, 92] (by decide) rfl
                have hFc : ∀ q : Nat, va_A (cDk a cI cC cS G) H4.size q → (va_A (cDk a cI cC cS G) s.heap.size) q := va_free hD hS hA [0, 1, 2, 3, 4, 5, 6, 7, 8, 9, 10, 11, 12, 13, 14, 15, 16, 17, 18, 19, 20, 21, 22, 23, 24, 25, 26, 27, 28, 29, 30, 31, 32, 33, 34, 35, 36, 37, 38, 39, 40, 41, 42, 43, 44, 45, 46, 47, 48, 49, 50, 51, 52, 53, 54, 55, 56, 57, 58, 59, 60, 61, 62, 63, 64, 65, 66, 67, 68, 69, 70, 71, 72, 73, 74, 75, 76, 77, 78, 79, 80, 81, 82, 83, 84, 85, 86, 87, 88, 89, 90, 91, 92] rfl
                refine va_calli (va_runV (As := [.int ((p2 >>> (7 &&& 31)) &&& 3), .int (f_L_low (p2 >>> (4 &&& 31)) 6), .int (f_L_low (p2 >>> (3 &&& 31)) 101)]) (rest := []) ⟨hx, hb, hml, hown, hts⟩ (c_X5_setSend l dC dI cI cC cS a G H4.size ((p2 >>> (7 &&& 31)) &&& 3) (f_L_low (p2 >>> (4 &&& 31)) 6) (f_L_low (p2 >>> (3 &&& 31)) 101) hG) (cwV 3 hts gL_act_X5_setSend rfl rfl rfl (by decide +kernel) ⟨Nat.le_of_ble_eq_true rfl, Nat.le_of_ble_eq_true rfl⟩) (pV (q0 := 0) hK hPc hDc hN rfl rfl) rfl rfl hl.1 rfl (lv_room (Nat.le_of_ble_eq_true rfl)) dL_act_205 ⟨Nat.le_of_ble_eq_true rfl, Nat.le_of_ble_eq_true rfl⟩) hS (fun q _ h => hFc q h) hFc (fun r_50 u_50 t_50 H51 locs ht hvm hw hB hz1 hk1 hS => ?_)
                obtain ⟨hw, hens52⟩ := hw
                obtain ⟨hP1, hD1⟩ := hB
                rw [ht] at hP1
                have hw1 : r_50 = (f_X5_setSend G ((p2 >>> (7 &&& 31)) &&& 3) (f_L_low (p2 >>> (4 &&& 31)) 6) (f_L_low (p2 >>> (3 &&& 31)) 101)).1 := congrArg Prod.fst hw
                have hw2 : u_50 = (f_X5_setSend G ((p2 >>> (7 &&& 31)) &&& 3) (f_L_low (p2 >>> (4 &&& 31)) 6) (f_L_low (p2 >>> (3 &&& 31)) 101)).2 := congrArg Prod.snd hw
                clear hw
                subst hw1
                subst hw2
                obtain ⟨hP, hD⟩ := va_join (wc := cDk a cI cC cS G) (wr := []) (w1 := cDk a cI cC cS ((f_X5_setSend G ((p2 >>> (7 &&& 31)) &&& 3) (f_L_low (p2 >>> (4 &&& 31)) 6) (f_L_low (p2 >>> (3 &&& 31)) 101)).2)) hP hD [0, 1, 2, 3, 4, 5, 6, 7, 8, 9, 10, 11, 12, 13, 14, 15, 16, 17, 18, 19, 20, 21, 22, 23, 24, 25, 26, 27, 28, 29, 30, 31, 32, 33, 34, 35, 36, 37, 38, 39, 40, 41, 42, 43, 44, 45, 46, 47, 48, 49, 50, 51, 52, 53, 54, 55, 56, 57, 58, 59, 60, 61, 62, 63, 64, 65, 66, 67, 68, 69, 70, 71, 72, 73, 74, 75, 76, 77, 78, 79, 80, 81, 82, 83, 84, 85, 86, 87, 88, 89, 90, 91, 92] [] rfl rfl (by decide) (by decide) hk1 hFc hP1 hD1
                have hP : va_P (dC, dI) vwCl (cDk a cI cC cS ((f_X5_setSend G ((p2 >>> (7 &&& 31)) &&& 3) (f_L_low (p2 >>> (4 &&& 31)) 6) (f_L_low (p2 >>> (3 &&& 31)) 101)).2)) H51 := hP.sub [0, 1, 2, 3, 4, 5, 6, 7, 8, 9, 10, 11, 12, 13, 14, 15, 16, 17, 18, 19, 20, 21, 22, 23, 24, 25, 26, 27, 28, 29, 30, 31, 32, 33, 34, 35, 36, 37, 38, 39, 40, 41, 42, 43, 44, 45, 46, 47, 48, 49, 50, 51, 52, 53, 54, 55, 56, 57, 58, 59, 60, 61, 62, 63, 64, 65, 66, 67, 68, 69, 70, 71, 72, 73, 74, 75, 76, 77, 78, 79, 80, 81, 82, 83, 84, 85, 86, 87, 88, 89, 90, 91, 92] rfl
                have hD : va_D (va_A (cDk a cI cC cS G) s.heap.size) (cDk a cI cC cS ((f_X5_setSend G ((p2 >>> (7 &&& 31)) &&& 3) (f_L_low (p2 >>> (4 &&& 31)) 6) (f_L_low (p2 >>> (3 &&& 31)) 101)).2)) := hD.sub [0, 1, 2, 3, 4, 5, 6, 7, 8, 9, 10, 11, 12, 13, 14, 15, 16, 17, 18, 19, 20, 21, 22, 23, 24, 25, 26, 27, 28, 29, 30, 31, 32, 33, 34, 35, 36, 37, 38, 39, 40, 41, 42, 43, 44, 45, 46, 47, 48, 49, 50, 51, 52, 53, 54, 55, 56, 57, 58, 59, 60, 61, 62, 63, 64, 65, 66, 67, 68, 69, 70, 71, 72, 73, 74, 75, 76, 77, 78, 79, 80, 81, 82, 83, 84, 85, 86, 87, 88, 89, 90, 91, 92] (by decide) rfl
                obtain ⟨Gn53, eGn53⟩ : ∃ z : GR, z = (f_X5_setSend G ((p2 >>> (7 &&& 31)) &&& 3) (f_L_low (p2 >>> (4 &&& 31)) 6) (f_L_low (p2 >>> (3 &&& 31)) 101)).2 := ⟨_, rfl⟩
                rw [sLet_eq, ← eGn53] at hR
                rw [← eGn53] at hP hD
                have hG54 : WFG Gn53 := by rw [eGn53]; exact hens52
                exact W.iret (v := (f_X5_setSend G ((p2 >>> (7 &&& 31)) &&& 3) (f_L_low (p2 >>> (4 &&& 31)) 6) (f_L_low (p2 >>> (3 &&& 31)) 101)).1) hx hb hr (fun t ht hWw => ⟨⟨(f_X5_setSend G ((p2 >>> (7 &&& 31)) &&& 3) (f_L_low (p2 >>> (4 &&& 31)) 6) (f_L_low (p2 >>> (3 &&& 31)) 101)).1, Gn53, rfl, ⟨hR.symm.trans eR, hG54⟩, by rw [ht]; exact hP, hD⟩, hS.F ht⟩) hS.2.2 dL_act_208
              · rw [if_neg c49] at hR
                rcases Decidable.em ((p2 &&& 15) = 7) with c55 | c55
                · rw [if_pos c55] at hR
                  refine lv_tableIn (tgt := 199) hx hb dL_act_33 (by rw [c55]; decide) (by rw [c55]; decide) (by rw [c55]; rfl) (by decide) ?_
                  refine lv_aload_n hx hb dL_act_199 rfl (lv_at hl 4 rfl) ?_
                  refine lv_iload hx hb dL_act_200 (lv_at hl 1 rfl) ?_
                  refine lv_iload_n hx hb dL_act_202 rfl (lv_at hl 2 rfl) ?_
                  refine lv_iload hx hb dL_act_203 (lv_at hl 0 rfl) ?_
                  have hPc : va_P (dC, dI) vwCl (cDk a cI cC cS G) H4 := hP.sub [0, 1, 2, 3, 4, 5, 6, 7, 8, 9, 10, 11, 12, 13, 14, 15, 16, 17, 18, 19, 20, 21, 22, 23, 24, 25, 26, 27, 28, 29, 30, 31, 32, 33, 34, 35, 36, 37, 38, 39, 40, 41, 42, 43, 44, 45, 46, 47, 48, 49, 50, 51, 52, 53, 54, 55, 56, 57, 58, 59, 60, 61, 62, 63, 64, 65, 66, 67, 68, 69, 70, 71, 72, 73, 74, 75, 76, 77, 78, 79, 80, 81, 82, 83, 84, 85, 86, 87, 88, 89, 90, 91, 92] rfl
                  have hDc : va_D (va_A (cDk a cI cC cS G) s.heap.size) (cDk a cI cC cS G) := hD.sub [0, 1, 2, 3, 4, 5, 6, 7, 8, 9, 10, 11, 12, 13, 14, 15, 16, 17, 18, 19, 20, 21, 22, 23, 24, 25, 26, 27, 28, 29, 30, 31, 32, 33, 34, 35, 36, 37, 38, 39, 40, 41, 42, 43, 44, 45, 46, 47, 48, 49, 50, 51, 52, 53, 54, 55, 56, 57, 58, 59, 60, 61, 62, 63, 64, 65, 66, 67, 68, 69, 70, 71, 72, 73, 74, 75, 76, 77, 78, 79, 80, 81, 82, 83, 84, 85, 86, 87, 88, 89, 90, 91, 92] (by decide) rfl
                  have hFc : ∀ q : Nat, va_A (cDk a cI cC cS G) H4.size q → (va_A (cDk a cI cC cS G) s.heap.size) q := va_free hD hS hA [0, 1, 2, 3, 4, 5, 6, 7, 8, 9, 10, 11, 12, 13, 14, 15, 16, 17, 18, 19, 20, 21, 22, 23, 24, 25, 26, 27, 28, 29, 30, 31, 32, 33, 34, 35, 36, 37, 38, 39, 40, 41, 42, 43, 44, 45, 46, 47, 48, 49, 50, 51, 52, 53, 54, 55, 56, 57, 58, 59, 60, 61, 62, 63, 64, 65, 66, 67, 68, 69, 70, 71, 72, 73, 74, 75, 76, 77, 78, 79, 80, 81, 82, 83, 84, 85, 86, 87, 88, 89, 90, 91, 92] rfl
                  refine va_calli (va_runV (As := [.int ((p2 >>> (7 &&& 31)) &&& 3), .int (f_L_low (p2 >>> (4 &&& 31)) 6), .int (f_L_low (p2 >>> (3 &&& 31)) 101)]) (rest := []) ⟨hx, hb, hml, hown, hts⟩ (c_X5_setSend l dC dI cI cC cS a G H4.size ((p2 >>> (7 &&& 31)) &&& 3) (f_L_low (p2 >>> (4 &&& 31)) 6) (f_L_low (p2 >>> (3 &&& 31)) 101) hG) (cwV 3 hts gL_act_X5_setSend rfl rfl rfl (by decide +kernel) ⟨Nat.le_of_ble_eq_true rfl, Nat.le_of_ble_eq_true rfl⟩) (pV (q0 := 0) hK hPc hDc hN rfl rfl) rfl rfl hl.1 rfl (lv_room (Nat.le_of_ble_eq_true rfl)) dL_act_205 ⟨Nat.le_of_ble_eq_true rfl, Nat.le_of_ble_eq_true rfl⟩) hS (fun q _ h => hFc q h) hFc (fun r_56 u_56 t_56 H57 locs ht hvm hw hB hz1 hk1 hS => ?_)
                  obtain ⟨hw, hens58⟩ := hw
                  obtain ⟨hP1, hD1⟩ := hB
                  rw [ht] at hP1
                  have hw1 : r_56 = (f_X5_setSend G ((p2 >>> (7 &&& 31)) &&& 3) (f_L_low (p2 >>> (4 &&& 31)) 6) (f_L_low (p2 >>> (3 &&& 31)) 101)).1 := congrArg Prod.fst hw
                  have hw2 : u_56 = (f_X5_setSend G ((p2 >>> (7 &&& 31)) &&& 3) (f_L_low (p2 >>> (4 &&& 31)) 6) (f_L_low (p2 >>> (3 &&& 31)) 101)).2 := congrArg Prod.snd hw
                  clear hw
                  subst hw1
                  subst hw2
                  obtain ⟨hP, hD⟩ := va_join (wc := cDk a cI cC cS G) (wr := []) (w1 := cDk a cI cC cS ((f_X5_setSend G ((p2 >>> (7 &&& 31)) &&& 3) (f_L_low (p2 >>> (4 &&& 31)) 6) (f_L_low (p2 >>> (3 &&& 31)) 101)).2)) hP hD [0, 1, 2, 3, 4, 5, 6, 7, 8, 9, 10, 11, 12, 13, 14, 15, 16, 17, 18, 19, 20, 21, 22, 23, 24, 25, 26, 27, 28, 29, 30, 31, 32, 33, 34, 35, 36, 37, 38, 39, 40, 41, 42, 43, 44, 45, 46, 47, 48, 49, 50, 51, 52, 53, 54, 55, 56, 57, 58, 59, 60, 61, 62, 63, 64, 65, 66, 67, 68, 69, 70, 71, 72, 73, 74, 75, 76, 77, 78, 79, 80, 81, 82, 83, 84, 85, 86, 87, 88, 89, 90, 91, 92] [] rfl rfl (by decide) (by decide) hk1 hFc hP1 hD1
                  have hP : va_P (dC, dI) vwCl (cDk a cI cC cS ((f_X5_setSend G ((p2 >>> (7 &&& 31)) &&& 3) (f_L_low (p2 >>> (4 &&& 31)) 6) (f_L_low (p2 >>> (3 &&& 31)) 101)).2)) H57 := hP.sub [0, 1, 2, 3, 4, 5, 6, 7, 8, 9, 10, 11, 12, 13, 14, 15, 16, 17, 18, 19, 20, 21, 22, 23, 24, 25, 26, 27, 28, 29, 30, 31, 32, 33, 34, 35, 36, 37, 38, 39, 40, 41, 42, 43, 44, 45, 46, 47, 48, 49, 50, 51, 52, 53, 54, 55, 56, 57, 58, 59, 60, 61, 62, 63, 64, 65, 66, 67, 68, 69, 70, 71, 72, 73, 74, 75, 76, 77, 78, 79, 80, 81, 82, 83, 84, 85, 86, 87, 88, 89, 90, 91, 92] rfl
                  have hD : va_D (va_A (cDk a cI cC cS G) s.heap.size) (cDk a cI cC cS ((f_X5_setSend G ((p2 >>> (7 &&& 31)) &&& 3) (f_L_low (p2 >>> (4 &&& 31)) 6) (f_L_low (p2 >>> (3 &&& 31)) 101)).2)) := hD.sub [0, 1, 2, 3, 4, 5, 6, 7, 8, 9, 10, 11, 12, 13, 14, 15, 16, 17, 18, 19, 20, 21, 22, 23, 24, 25, 26, 27, 28, 29, 30, 31, 32, 33, 34, 35, 36, 37, 38, 39, 40, 41, 42, 43, 44, 45, 46, 47, 48, 49, 50, 51, 52, 53, 54, 55, 56, 57, 58, 59, 60, 61, 62, 63, 64, 65, 66, 67, 68, 69, 70, 71, 72, 73, 74, 75, 76, 77, 78, 79, 80, 81, 82, 83, 84, 85, 86, 87, 88, 89, 90, 91, 92] (by decide) rfl
                  obtain ⟨Gn59, eGn59⟩ : ∃ z : GR, z = (f_X5_setSend G ((p2 >>> (7 &&& 31)) &&& 3) (f_L_low (p2 >>> (4 &&& 31)) 6) (f_L_low (p2 >>> (3 &&& 31)) 101)).2 := ⟨_, rfl⟩
                  rw [sLet_eq, ← eGn59] at hR
                  rw [← eGn59] at hP hD
                  have hG60 : WFG Gn59 := by rw [eGn59]; exact hens58
                  exact W.iret (v := (f_X5_setSend G ((p2 >>> (7 &&& 31)) &&& 3) (f_L_low (p2 >>> (4 &&& 31)) 6) (f_L_low (p2 >>> (3 &&& 31)) 101)).1) hx hb hr (fun t ht hWw => ⟨⟨(f_X5_setSend G ((p2 >>> (7 &&& 31)) &&& 3) (f_L_low (p2 >>> (4 &&& 31)) 6) (f_L_low (p2 >>> (3 &&& 31)) 101)).1, Gn59, rfl, ⟨hR.symm.trans eR, hG60⟩, by rw [ht]; exact hP, hD⟩, hS.F ht⟩) hS.2.2 dL_act_208
                · rw [if_neg c55] at hR
                  rcases Decidable.em ((p2 &&& 15) = 8) with c61 | c61
                  · rw [if_pos c61] at hR
                    refine lv_tableIn (tgt := 199) hx hb dL_act_33 (by rw [c61]; decide) (by rw [c61]; decide) (by rw [c61]; rfl) (by decide) ?_
                    refine lv_aload_n hx hb dL_act_199 rfl (lv_at hl 4 rfl) ?_
                    refine lv_iload hx hb dL_act_200 (lv_at hl 1 rfl) ?_
                    refine lv_iload_n hx hb dL_act_202 rfl (lv_at hl 2 rfl) ?_
                    refine lv_iload hx hb dL_act_203 (lv_at hl 0 rfl) ?_
                    have hPc : va_P (dC, dI) vwCl (cDk a cI cC cS G) H4 := hP.sub [0, 1, 2, 3, 4, 5, 6, 7, 8, 9, 10, 11, 12, 13, 14, 15, 16, 17, 18, 19, 20, 21, 22, 23, 24, 25, 26, 27, 28, 29, 30, 31, 32, 33, 34, 35, 36, 37, 38, 39, 40, 41, 42, 43, 44, 45, 46, 47, 48, 49, 50, 51, 52, 53, 54, 55, 56, 57, 58, 59, 60, 61, 62, 63, 64, 65, 66, 67, 68, 69, 70, 71, 72, 73, 74, 75, 76, 77, 78, 79, 80, 81, 82, 83, 84, 85, 86, 87, 88, 89, 90, 91, 92] rfl
                    have hDc : va_D (va_A (cDk a cI cC cS G) s.heap.size) (cDk a cI cC cS G) := hD.sub [0, 1, 2, 3, 4, 5, 6, 7, 8, 9, 10, 11, 12, 13, 14, 15, 16, 17, 18, 19, 20, 21, 22, 23, 24, 25, 26, 27, 28, 29, 30, 31, 32, 33, 34, 35, 36, 37, 38, 39, 40, 41, 42, 43, 44, 45, 46, 47, 48, 49, 50, 51, 52, 53, 54, 55, 56, 57, 58, 59, 60, 61, 62, 63, 64, 65, 66, 67, 68, 69, 70, 71, 72, 73, 74, 75, 76, 77, 78, 79, 80, 81, 82, 83, 84, 85, 86, 87, 88, 89, 90, 91, 92] (by decide) rfl
                    have hFc : ∀ q : Nat, va_A (cDk a cI cC cS G) H4.size q → (va_A (cDk a cI cC cS G) s.heap.size) q := va_free hD hS hA [0, 1, 2, 3, 4, 5, 6, 7, 8, 9, 10, 11, 12, 13, 14, 15, 16, 17, 18, 19, 20, 21, 22, 23, 24, 25, 26, 27, 28, 29, 30, 31, 32, 33, 34, 35, 36, 37, 38, 39, 40, 41, 42, 43, 44, 45, 46, 47, 48, 49, 50, 51, 52, 53, 54, 55, 56, 57, 58, 59, 60, 61, 62, 63, 64, 65, 66, 67, 68, 69, 70, 71, 72, 73, 74, 75, 76, 77, 78, 79, 80, 81, 82, 83, 84, 85, 86, 87, 88, 89, 90, 91, 92] rfl
                    refine va_calli (va_runV (As := [.int ((p2 >>> (7 &&& 31)) &&& 3), .int (f_L_low (p2 >>> (4 &&& 31)) 6), .int (f_L_low (p2 >>> (3 &&& 31)) 101)]) (rest := []) ⟨hx, hb, hml, hown, hts⟩ (c_X5_setSend l dC dI cI cC cS a G H4.size ((p2 >>> (7 &&& 31)) &&& 3) (f_L_low (p2 >>> (4 &&& 31)) 6) (f_L_low (p2 >>> (3 &&& 31)) 101) hG) (cwV 3 hts gL_act_X5_setSend rfl rfl rfl (by decide +kernel) ⟨Nat.le_of_ble_eq_true rfl, Nat.le_of_ble_eq_true rfl⟩) (pV (q0 := 0) hK hPc hDc hN rfl rfl) rfl rfl hl.1 rfl (lv_room (Nat.le_of_ble_eq_true rfl)) dL_act_205 ⟨Nat.le_of_ble_eq_true rfl, Nat.le_of_ble_eq_true rfl⟩) hS (fun q _ h => hFc q h) hFc (fun r_62 u_62 t_62 H63 locs ht hvm hw hB hz1 hk1 hS => ?_)
                    obtain ⟨hw, hens64⟩ := hw
                    obtain ⟨hP1, hD1⟩ := hB
                    rw [ht] at hP1
                    have hw1 : r_62 = (f_X5_setSend G ((p2 >>> (7 &&& 31)) &&& 3) (f_L_low (p2 >>> (4 &&& 31)) 6) (f_L_low (p2 >>> (3 &&& 31)) 101)).1 := congrArg Prod.fst hw
                    have hw2 : u_62 = (f_X5_setSend G ((p2 >>> (7 &&& 31)) &&& 3) (f_L_low (p2 >>> (4 &&& 31)) 6) (f_L_low (p2 >>> (3 &&& 31)) 101)).2 := congrArg Prod.snd hw
                    clear hw
                    subst hw1
                    subst hw2
                    obtain ⟨hP, hD⟩ := va_join (wc := cDk a cI cC cS G) (wr := []) (w1 := cDk a cI cC cS ((f_X5_setSend G ((p2 >>> (7 &&& 31)) &&& 3) (f_L_low (p2 >>> (4 &&& 31)) 6) (f_L_low (p2 >>> (3 &&& 31)) 101)).2)) hP hD [0, 1, 2, 3, 4, 5, 6, 7, 8, 9, 10, 11, 12, 13, 14, 15, 16, 17, 18, 19, 20, 21, 22, 23, 24, 25, 26, 27, 28, 29, 30, 31, 32, 33, 34, 35, 36, 37, 38, 39, 40, 41, 42, 43, 44, 45, 46, 47, 48, 49, 50, 51, 52, 53, 54, 55, 56, 57, 58, 59, 60, 61, 62, 63, 64, 65, 66, 67, 68, 69, 70, 71, 72, 73, 74, 75, 76, 77, 78, 79, 80, 81, 82, 83, 84, 85, 86, 87, 88, 89, 90, 91, 92] [] rfl rfl (by decide) (by decide) hk1 hFc hP1 hD1
                    have hP : va_P (dC, dI) vwCl (cDk a cI cC cS ((f_X5_setSend G ((p2 >>> (7 &&& 31)) &&& 3) (f_L_low (p2 >>> (4 &&& 31)) 6) (f_L_low (p2 >>> (3 &&& 31)) 101)).2)) H63 := hP.sub [0, 1, 2, 3, 4, 5, 6, 7, 8, 9, 10, 11, 12, 13, 14, 15, 16, 17, 18, 19, 20, 21, 22, 23, 24, 25, 26, 27, 28, 29, 30, 31, 32, 33, 34, 35, 36, 37, 38, 39, 40, 41, 42, 43, 44, 45, 46, 47, 48, 49, 50, 51, 52, 53, 54, 55, 56, 57, 58, 59, 60, 61, 62, 63, 64, 65, 66, 67, 68, 69, 70, 71, 72, 73, 74, 75, 76, 77, 78, 79, 80, 81, 82, 83, 84, 85, 86, 87, 88, 89, 90, 91, 92] rfl
                    have hD : va_D (va_A (cDk a cI cC cS G) s.heap.size) (cDk a cI cC cS ((f_X5_setSend G ((p2 >>> (7 &&& 31)) &&& 3) (f_L_low (p2 >>> (4 &&& 31)) 6) (f_L_low (p2 >>> (3 &&& 31)) 101)).2)) := hD.sub [0, 1, 2, 3, 4, 5, 6, 7, 8, 9, 10, 11, 12, 13, 14, 15, 16, 17, 18, 19, 20, 21, 22, 23, 24, 25, 26, 27, 28, 29, 30, 31, 32, 33, 34, 35, 36, 37, 38, 39, 40, 41, 42, 43, 44, 45, 46, 47, 48, 49, 50, 51, 52, 53, 54, 55, 56, 57, 58, 59, 60, 61, 62, 63, 64, 65, 66, 67, 68, 69, 70, 71, 72, 73, 74, 75, 76, 77, 78, 79, 80, 81, 82, 83, 84, 85, 86, 87, 88, 89, 90, 91, 92] (by decide) rfl
                    obtain ⟨Gn65, eGn65⟩ : ∃ z : GR, z = (f_X5_setSend G ((p2 >>> (7 &&& 31)) &&& 3) (f_L_low (p2 >>> (4 &&& 31)) 6) (f_L_low (p2 >>> (3 &&& 31)) 101)).2 := ⟨_, rfl⟩
                    rw [sLet_eq, ← eGn65] at hR
                    rw [← eGn65] at hP hD
                    have hG66 : WFG Gn65 := by rw [eGn65]; exact hens64
                    exact W.iret (v := (f_X5_setSend G ((p2 >>> (7 &&& 31)) &&& 3) (f_L_low (p2 >>> (4 &&& 31)) 6) (f_L_low (p2 >>> (3 &&& 31)) 101)).1) hx hb hr (fun t ht hWw => ⟨⟨(f_X5_setSend G ((p2 >>> (7 &&& 31)) &&& 3) (f_L_low (p2 >>> (4 &&& 31)) 6) (f_L_low (p2 >>> (3 &&& 31)) 101)).1, Gn65, rfl, ⟨hR.symm.trans eR, hG66⟩, by rw [ht]; exact hP, hD⟩, hS.F ht⟩) hS.2.2 dL_act_208
                  · rw [if_neg c61] at hR
                    rcases Decidable.em ((p2 &&& 15) = 9) with c67 | c67
                    · rw [if_pos c67] at hR
                      refine lv_tableIn (tgt := 209) hx hb dL_act_33 (by rw [c67]; decide) (by rw [c67]; decide) (by rw [c67]; rfl) (by decide) ?_
                      refine lv_aload_n hx hb dL_act_209 rfl (lv_at hl 4 rfl) ?_
                      refine lv_iload hx hb dL_act_210 (lv_at hl 1 rfl) ?_
                      refine lv_iload_n hx hb dL_act_212 rfl (lv_at hl 2 rfl) ?_
                      refine lv_iload_n hx hb dL_act_213 rfl (lv_at hl 5 rfl) ?_
                      refine lv_bipush (v := 9) hx hb dL_act_214 (by decide) ?_
                      refine lv_ishr hx hb dL_act_216 ?_
                      refine lv_iconst (v := 1) hx hb dL_act_217 (by decide) ?_
                      refine lv_iand hx hb dL_act_218 ?_
                      have hPc : va_P (dC, dI) vwCl (cDk a cI cC cS G) H4 := hP.sub [0, 1, 2, 3, 4, 5, 6, 7, 8, 9, 10, 11, 12, 13, 14, 15, 16, 17, 18, 19, 20, 21, 22, 23, 24, 25, 26, 27, 28, 29, 30, 31, 32, 33, 34, 35, 36, 37, 38, 39, 40, 41, 42, 43, 44, 45, 46, 47, 48, 49, 50, 51, 52, 53, 54, 55, 56, 57, 58, 59, 60, 61, 62, 63, 64, 65, 66, 67, 68, 69, 70, 71, 72, 73, 74, 75, 76, 77, 78, 79, 80, 81, 82, 83, 84, 85, 86, 87, 88, 89, 90, 91, 92] rfl
                      have hDc : va_D (va_A (cDk a cI cC cS G) s.heap.size) (cDk a cI cC cS G) := hD.sub [0, 1, 2, 3, 4, 5, 6, 7, 8, 9, 10, 11, 12, 13, 14, 15, 16, 17, 18, 19, 20, 21, 22, 23, 24, 25, 26, 27, 28, 29, 30, 31, 32, 33, 34, 35, 36, 37, 38, 39, 40, 41, 42, 43, 44, 45, 46, 47, 48, 49, 50, 51, 52, 53, 54, 55, 56, 57, 58, 59, 60, 61, 62, 63, 64, 65, 66, 67, 68, 69, 70, 71, 72, 73, 74, 75, 76, 77, 78, 79, 80, 81, 82, 83, 84, 85, 86, 87, 88, 89, 90, 91, 92] (by decide) rfl
                      have hFc : ∀ q : Nat, va_A (cDk a cI cC cS G) H4.size q → (va_A (cDk a cI cC cS G) s.heap.size) q := va_free hD hS hA [0, 1, 2, 3, 4, 5, 6, 7, 8, 9, 10, 11, 12, 13, 14, 15, 16, 17, 18, 19, 20, 21, 22, 23, 24, 25, 26, 27, 28, 29, 30, 31, 32, 33, 34, 35, 36, 37, 38, 39, 40, 41, 42, 43, 44, 45, 46, 47, 48, 49, 50, 51, 52, 53, 54, 55, 56, 57, 58, 59, 60, 61, 62, 63, 64, 65, 66, 67, 68, 69, 70, 71, 72, 73, 74, 75, 76, 77, 78, 79, 80, 81, 82, 83, 84, 85, 86, 87, 88, 89, 90, 91, 92] rfl
                      refine va_calli (va_runV (As := [.int ((p2 >>> (7 &&& 31)) &&& 3), .int (f_L_low (p2 >>> (4 &&& 31)) 6), .int ((p2 >>> (9 &&& 31)) &&& 1)]) (rest := []) ⟨hx, hb, hml, hown, hts⟩ (c_X5_setOwner l dC dI cI cC cS a G H4.size ((p2 >>> (7 &&& 31)) &&& 3) (f_L_low (p2 >>> (4 &&& 31)) 6) ((p2 >>> (9 &&& 31)) &&& 1) hG) (cwV 3 hts gL_act_X5_setOwner rfl rfl rfl (by decide +kernel) ⟨Nat.le_of_ble_eq_true rfl, Nat.le_of_ble_eq_true rfl⟩) (pV (q0 := 0) hK hPc hDc hN rfl rfl) rfl rfl hl.1 rfl (lv_room (Nat.le_of_ble_eq_true rfl)) dL_act_219 ⟨Nat.le_of_ble_eq_true rfl, Nat.le_of_ble_eq_true rfl⟩) hS (fun q _ h => hFc q h) hFc (fun r_68 u_68 t_68 H69 locs ht hvm hw hB hz1 hk1 hS => ?_)
                      obtain ⟨hw, hens70⟩ := hw
                      obtain ⟨hP1, hD1⟩ := hB
                      rw [ht] at hP1
                      have hw1 : r_68 = (f_X5_setOwner G ((p2 >>> (7 &&& 31)) &&& 3) (f_L_low (p2 >>> (4 &&& 31)) 6) ((p2 >>> (9 &&& 31)) &&& 1)).1 := congrArg Prod.fst hw
                      have hw2 : u_68 = (f_X5_setOwner G ((p2 >>> (7 &&& 31)) &&& 3) (f_L_low (p2 >>> (4 &&& 31)) 6) ((p2 >>> (9 &&& 31)) &&& 1)).2 := congrArg Prod.snd hw
                      clear hw
                      subst hw1
                      subst hw2
                      obtain ⟨hP, hD⟩ := va_join (wc := cDk a cI cC cS G) (wr := []) (w1 := cDk a cI cC cS ((f_X5_setOwner G ((p2 >>> (7 &&& 31)) &&& 3) (f_L_low (p2 >>> (4 &&& 31)) 6) ((p2 >>> (9 &&& 31)) &&& 1)).2)) hP hD [0, 1, 2, 3, 4, 5, 6, 7, 8, 9, 10, 11, 12, 13, 14, 15, 16, 17, 18, 19, 20, 21, 22, 23, 24, 25, 26, 27, 28, 29, 30, 31, 32, 33, 34, 35, 36, 37, 38, 39, 40, 41, 42, 43, 44, 45, 46, 47, 48, 49, 50, 51, 52, 53, 54, 55, 56, 57, 58, 59, 60, 61, 62, 63, 64, 65, 66, 67, 68, 69, 70, 71, 72, 73, 74, 75, 76, 77, 78, 79, 80, 81, 82, 83, 84, 85, 86, 87, 88, 89, 90, 91, 92] [] rfl rfl (by decide) (by decide) hk1 hFc hP1 hD1
                      have hP : va_P (dC, dI) vwCl (cDk a cI cC cS ((f_X5_setOwner G ((p2 >>> (7 &&& 31)) &&& 3) (f_L_low (p2 >>> (4 &&& 31)) 6) ((p2 >>> (9 &&& 31)) &&& 1)).2)) H69 := hP.sub [0, 1, 2, 3, 4, 5, 6, 7, 8, 9, 10, 11, 12, 13, 14, 15, 16, 17, 18, 19, 20, 21, 22, 23, 24, 25, 26, 27, 28, 29, 30, 31, 32, 33, 34, 35, 36, 37, 38, 39, 40, 41, 42, 43, 44, 45, 46, 47, 48, 49, 50, 51, 52, 53, 54, 55, 56, 57, 58, 59, 60, 61, 62, 63, 64, 65, 66, 67, 68, 69, 70, 71, 72, 73, 74, 75, 76, 77, 78, 79, 80, 81, 82, 83, 84, 85, 86, 87, 88, 89, 90, 91, 92] rfl
                      have hD : va_D (va_A (cDk a cI cC cS G) s.heap.size) (cDk a cI cC cS ((f_X5_setOwner G ((p2 >>> (7 &&& 31)) &&& 3) (f_L_low (p2 >>> (4 &&& 31)) 6) ((p2 >>> (9 &&& 31)) &&& 1)).2)) := hD.sub [0, 1, 2, 3, 4, 5, 6, 7, 8, 9, 10, 11, 12, 13, 14, 15, 16, 17, 18, 19, 20, 21, 22, 23, 24, 25, 26, 27, 28, 29, 30, 31, 32, 33, 34, 35, 36, 37, 38, 39, 40, 41, 42, 43, 44, 45, 46, 47, 48, 49, 50, 51, 52, 53, 54, 55, 56, 57, 58, 59, 60, 61, 62, 63, 64, 65, 66, 67, 68, 69, 70, 71, 72, 73, 74, 75, 76, 77, 78, 79, 80, 81, 82, 83, 84, 85, 86, 87, 88, 89, 90, 91, 92] (by decide) rfl
                      obtain ⟨Gn71, eGn71⟩ : ∃ z : GR, z = (f_X5_setOwner G ((p2 >>> (7 &&& 31)) &&& 3) (f_L_low (p2 >>> (4 &&& 31)) 6) ((p2 >>> (9 &&& 31)) &&& 1)).2 := ⟨_, rfl⟩
                      rw [sLet_eq, ← eGn71] at hR
                      rw [← eGn71] at hP hD
                      have hG72 : WFG Gn71 := by rw [eGn71]; exact hens70
                      exact W.iret (v := (f_X5_setOwner G ((p2 >>> (7 &&& 31)) &&& 3) (f_L_low (p2 >>> (4 &&& 31)) 6) ((p2 >>> (9 &&& 31)) &&& 1)).1) hx hb hr (fun t ht hWw => ⟨⟨(f_X5_setOwner G ((p2 >>> (7 &&& 31)) &&& 3) (f_L_low (p2 >>> (4 &&& 31)) 6) ((p2 >>> (9 &&& 31)) &&& 1)).1, Gn71, rfl, ⟨hR.symm.trans eR, hG72⟩, by rw [ht]; exact hP, hD⟩, hS.F ht⟩) hS.2.2 dL_act_222
                    · rw [if_neg c67] at hR
                      rcases Decidable.em ((p2 &&& 15) = 10) with c73 | c73
                      · rw [if_pos c73] at hR
                        refine lv_tableIn (tgt := 223) hx hb dL_act_33 (by rw [c73]; decide) (by rw [c73]; decide) (by rw [c73]; rfl) (by decide) ?_
                        refine lv_aload_n hx hb dL_act_223 rfl (lv_at hl 4 rfl) ?_
                        refine lv_iload hx hb dL_act_224 (lv_at hl 1 rfl) ?_
                        refine lv_iload_n hx hb dL_act_226 rfl (lv_at hl 3 rfl) ?_
                        refine lv_bipush (v := 7) hx hb dL_act_227 (by decide) ?_
                        have hFc : ∀ q : Nat, va_A [] H4.size q → (va_A (cDk a cI cC cS G) s.heap.size) q := roF hS hA
                        refine va_calli (va_runS (As := [.int (p2 >>> (4 &&& 31)), .int 7]) (rest := [.int ((p2 >>> (7 &&& 31)) &&& 3), .ref (a 0)]) ⟨hx, hb, hml, hown, hts⟩ (c_L_low l dC dI cI cC cS H4.size (p2 >>> (4 &&& 31)) 7 (by decide)) (va_cwS 2 hts gL_act_L_low rfl rfl rfl (by decide +kernel) ⟨Nat.le_of_ble_eq_true rfl, Nat.le_of_ble_eq_true rfl⟩) (pS hK (va_P_nil) (va_D_nil) hN) rfl rfl hl.1 rfl (lv_room (Nat.le_of_ble_eq_true rfl)) dL_act_229 ⟨Nat.le_of_ble_eq_true rfl, Nat.le_of_ble_eq_true rfl⟩) hS (fun q _ h => hFc q h) hFc (fun r_74 u_74 t_74 H75 locs ht hvm hw hB hz1 hk1 hS => ?_)
                        subst hw
                        have hP := ro_keep hP hk1
                        refine lv_iconst (v := 1) hx hb dL_act_232 (by decide) ?_
                        refine lv_isub hx hb dL_act_233 ?_
                        have hPc : va_P (dC, dI) vwCl (cDk a cI cC cS G) H75 := hP.sub [0, 1, 2, 3, 4, 5, 6, 7, 8, 9, 10, 11, 12, 13, 14, 15, 16, 17, 18, 19, 20, 21, 22, 23, 24, 25, 26, 27, 28, 29, 30, 31, 32, 33, 34, 35, 36, 37, 38, 39, 40, 41, 42, 43, 44, 45, 46, 47, 48, 49, 50, 51, 52, 53, 54, 55, 56, 57, 58, 59, 60, 61, 62, 63, 64, 65, 66, 67, 68, 69, 70, 71, 72, 73, 74, 75, 76, 77, 78, 79, 80, 81, 82, 83, 84, 85, 86, 87, 88, 89, 90, 91, 92] rfl
                        have hDc : va_D (va_A (cDk a cI cC cS G) s.heap.size) (cDk a cI cC cS G) := hD.sub [0, 1, 2, 3, 4, 5, 6, 7, 8, 9, 10, 11, 12, 13, 14, 15, 16, 17, 18, 19, 20, 21, 22, 23, 24, 25, 26, 27, 28, 29, 30, 31, 32, 33, 34, 35, 36, 37, 38, 39, 40, 41, 42, 43, 44, 45, 46, 47, 48, 49, 50, 51, 52, 53, 54, 55, 56, 57, 58, 59, 60, 61, 62, 63, 64, 65, 66, 67, 68, 69, 70, 71, 72, 73, 74, 75, 76, 77, 78, 79, 80, 81, 82, 83, 84, 85, 86, 87, 88, 89, 90, 91, 92] (by decide) rfl
                        have hFc : ∀ q : Nat, va_A (cDk a cI cC cS G) H75.size q → (va_A (cDk a cI cC cS G) s.heap.size) q := va_free hD hS hA [0, 1, 2, 3, 4, 5, 6, 7, 8, 9, 10, 11, 12, 13, 14, 15, 16, 17, 18, 19, 20, 21, 22, 23, 24, 25, 26, 27, 28, 29, 30, 31, 32, 33, 34, 35, 36, 37, 38, 39, 40, 41, 42, 43, 44, 45, 46, 47, 48, 49, 50, 51, 52, 53, 54, 55, 56, 57, 58, 59, 60, 61, 62, 63, 64, 65, 66, 67, 68, 69, 70, 71, 72, 73, 74, 75, 76, 77, 78, 79, 80, 81, 82, 83, 84, 85, 86, 87, 88, 89, 90, 91, 92] rfl
                        refine va_calli (va_runV (As := [.int ((p2 >>> (7 &&& 31)) &&& 3), .int ((f_L_low (p2 >>> (4 &&& 31)) 7) - 1)]) (rest := []) ⟨hx, hb, hml, hown, hts⟩ (c_X5_setReturn l dC dI cI cC cS a G H75.size ((p2 >>> (7 &&& 31)) &&& 3) ((f_L_low (p2 >>> (4 &&& 31)) 7) - 1) hG) (cwV 2 hts gL_act_X5_setReturn rfl rfl rfl (by decide +kernel) ⟨Nat.le_of_ble_eq_true rfl, Nat.le_of_ble_eq_true rfl⟩) (pV (q0 := 0) hK hPc hDc hN rfl rfl) rfl rfl hl.1 rfl (lv_room (Nat.le_of_ble_eq_true rfl)) dL_act_234 ⟨Nat.le_of_ble_eq_true rfl, Nat.le_of_ble_eq_true rfl⟩) hS (fun q _ h => hFc q h) hFc (fun r_76 u_76 t_76 H77 locs ht hvm hw hB hz1 hk1 hS => ?_)
                        obtain ⟨hw, hens78⟩ := hw
                        obtain ⟨hP1, hD1⟩ := hB
                        rw [ht] at hP1
                        have hw1 : r_76 = (f_X5_setReturn G ((p2 >>> (7 &&& 31)) &&& 3) ((f_L_low (p2 >>> (4 &&& 31)) 7) - 1)).1 := congrArg Prod.fst hw
                        have hw2 : u_76 = (f_X5_setReturn G ((p2 >>> (7 &&& 31)) &&& 3) ((f_L_low (p2 >>> (4 &&& 31)) 7) - 1)).2 := congrArg Prod.snd hw
                        clear hw
                        subst hw1
                        subst hw2
                        obtain ⟨hP, hD⟩ := va_join (wc := cDk a cI cC cS G) (wr := []) (w1 := cDk a cI cC cS ((f_X5_setReturn G ((p2 >>> (7 &&& 31)) &&& 3) ((f_L_low (p2 >>> (4 &&& 31)) 7) - 1)).2)) hP hD [0, 1, 2, 3, 4, 5, 6, 7, 8, 9, 10, 11, 12, 13, 14, 15, 16, 17, 18, 19, 20, 21, 22, 23, 24, 25, 26, 27, 28, 29, 30, 31, 32, 33, 34, 35, 36, 37, 38, 39, 40, 41, 42, 43, 44, 45, 46, 47, 48, 49, 50, 51, 52, 53, 54, 55, 56, 57, 58, 59, 60, 61, 62, 63, 64, 65, 66, 67, 68, 69, 70, 71, 72, 73, 74, 75, 76, 77, 78, 79, 80, 81, 82, 83, 84, 85, 86, 87, 88, 89, 90, 91, 92] [] rfl rfl (by decide) (by decide) hk1 hFc hP1 hD1
                        have hP : va_P (dC, dI) vwCl (cDk a cI cC cS ((f_X5_setReturn G ((p2 >>> (7 &&& 31)) &&& 3) ((f_L_low (p2 >>> (4 &&& 31)) 7) - 1)).2)) H77 := hP.sub [0, 1, 2, 3, 4, 5, 6, 7, 8, 9, 10, 11, 12, 13, 14, 15, 16, 17, 18, 19, 20, 21, 22, 23, 24, 25, 26, 27, 28, 29, 30, 31, 32, 33, 34, 35, 36, 37, 38, 39, 40, 41, 42, 43, 44, 45, 46, 47, 48, 49, 50, 51, 52, 53, 54, 55, 56, 57, 58, 59, 60, 61, 62, 63, 64, 65, 66, 67, 68, 69, 70, 71, 72, 73, 74, 75, 76, 77, 78, 79, 80, 81, 82, 83, 84, 85, 86, 87, 88, 89, 90, 91, 92] rfl
                        have hD : va_D (va_A (cDk a cI cC cS G) s.heap.size) (cDk a cI cC cS ((f_X5_setReturn G ((p2 >>> (7 &&& 31)) &&& 3) ((f_L_low (p2 >>> (4 &&& 31)) 7) - 1)).2)) := hD.sub [0, 1, 2, 3, 4, 5, 6, 7, 8, 9, 10, 11, 12, 13, 14, 15, 16, 17, 18, 19, 20, 21, 22, 23, 24, 25, 26, 27, 28, 29, 30, 31, 32, 33, 34, 35, 36, 37, 38, 39, 40, 41, 42, 43, 44, 45, 46, 47, 48, 49, 50, 51, 52, 53, 54, 55, 56, 57, 58, 59, 60, 61, 62, 63, 64, 65, 66, 67, 68, 69, 70, 71, 72, 73, 74, 75, 76, 77, 78, 79, 80, 81, 82, 83, 84, 85, 86, 87, 88, 89, 90, 91, 92] (by decide) rfl
                        obtain ⟨Gn79, eGn79⟩ : ∃ z : GR, z = (f_X5_setReturn G ((p2 >>> (7 &&& 31)) &&& 3) ((f_L_low (p2 >>> (4 &&& 31)) 7) - 1)).2 := ⟨_, rfl⟩
                        rw [sLet_eq, ← eGn79] at hR
                        rw [← eGn79] at hP hD
                        have hG80 : WFG Gn79 := by rw [eGn79]; exact hens78
                        exact W.iret (v := (f_X5_setReturn G ((p2 >>> (7 &&& 31)) &&& 3) ((f_L_low (p2 >>> (4 &&& 31)) 7) - 1)).1) hx hb hr (fun t ht hWw => ⟨⟨(f_X5_setReturn G ((p2 >>> (7 &&& 31)) &&& 3) ((f_L_low (p2 >>> (4 &&& 31)) 7) - 1)).1, Gn79, rfl, ⟨hR.symm.trans eR, hG80⟩, by rw [ht]; exact hP, hD⟩, hS.F ht⟩) hS.2.2 dL_act_237
                      · rw [if_neg c73] at hR
                        rcases Decidable.em ((p2 &&& 15) = 11) with c81 | c81
                        · rw [if_pos c81] at hR
                          refine lv_tableIn (tgt := 223) hx hb dL_act_33 (by rw [c81]; decide) (by rw [c81]; decide) (by rw [c81]; rfl) (by decide) ?_
                          refine lv_aload_n hx hb dL_act_223 rfl (lv_at hl 4 rfl) ?_
                          refine lv_iload hx hb dL_act_224 (lv_at hl 1 rfl) ?_
                          refine lv_iload_n hx hb dL_act_226 rfl (lv_at hl 3 rfl) ?_
                          refine lv_bipush (v := 7) hx hb dL_act_227 (by decide) ?_
                          have hFc : ∀ q : Nat, va_A [] H4.size q → (va_A (cDk a cI cC cS G) s.heap.size) q := roF hS hA
                          refine va_calli (va_runS (As := [.int (p2 >>> (4 &&& 31)), .int 7]) (rest := [.int ((p2 >>> (7 &&& 31)) &&& 3), .ref (a 0)]) ⟨hx, hb, hml, hown, hts⟩ (c_L_low l dC dI cI cC cS H4.size (p2 >>> (4 &&& 31)) 7 (by decide)) (va_cwS 2 hts gL_act_L_low rfl rfl rfl (by decide +kernel) ⟨Nat.le_of_ble_eq_true rfl, Nat.le_of_ble_eq_true rfl⟩) (pS hK (va_P_nil) (va_D_nil) hN) rfl rfl hl.1 rfl (lv_room (Nat.le_of_ble_eq_true rfl)) dL_act_229 ⟨Nat.le_of_ble_eq_true rfl, Nat.le_of_ble_eq_true rfl⟩) hS (fun q _ h => hFc q h) hFc (fun r_82 u_82 t_82 H83 locs ht hvm hw hB hz1 hk1 hS => ?_)
                          subst hw
                          have hP := ro_keep hP hk1
                          refine lv_iconst (v := 1) hx hb dL_act_232 (by decide) ?_
                          refine lv_isub hx hb dL_act_233 ?_
                          have hPc : va_P (dC, dI) vwCl (cDk a cI cC cS G) H83 := hP.sub [0, 1, 2, 3, 4, 5, 6, 7, 8, 9, 10, 11, 12, 13, 14, 15, 16, 17, 18, 19, 20, 21, 22, 23, 24, 25, 26, 27, 28, 29, 30, 31, 32, 33, 34, 35, 36, 37, 38, 39, 40, 41, 42, 43, 44, 45, 46, 47, 48, 49, 50, 51, 52, 53, 54, 55, 56, 57, 58, 59, 60, 61, 62, 63, 64, 65, 66, 67, 68, 69, 70, 71, 72, 73, 74, 75, 76, 77, 78, 79, 80, 81, 82, 83, 84, 85, 86, 87, 88, 89, 90, 91, 92] rfl
                          have hDc : va_D (va_A (cDk a cI cC cS G) s.heap.size) (cDk a cI cC cS G) := hD.sub [0, 1, 2, 3, 4, 5, 6, 7, 8, 9, 10, 11, 12, 13, 14, 15, 16, 17, 18, 19, 20, 21, 22, 23, 24, 25, 26, 27, 28, 29, 30, 31, 32, 33, 34, 35, 36, 37, 38, 39, 40, 41, 42, 43, 44, 45, 46, 47, 48, 49, 50, 51, 52, 53, 54, 55, 56, 57, 58, 59, 60, 61, 62, 63, 64, 65, 66, 67, 68, 69, 70, 71, 72, 73, 74, 75, 76, 77, 78, 79, 80, 81, 82, 83, 84, 85, 86, 87, 88, 89, 90, 91, 92] (by decide) rfl
                          have hFc : ∀ q : Nat, va_A (cDk a cI cC cS G) H83.size q → (va_A (cDk a cI cC cS G) s.heap.size) q := va_free hD hS hA [0, 1, 2, 3, 4, 5, 6, 7, 8, 9, 10, 11, 12, 13, 14, 15, 16, 17, 18, 19, 20, 21, 22, 23, 24, 25, 26, 27, 28, 29, 30, 31, 32, 33, 34, 35, 36, 37, 38, 39, 40, 41, 42, 43, 44, 45, 46, 47, 48, 49, 50, 51, 52, 53, 54, 55, 56, 57, 58, 59, 60, 61, 62, 63, 64, 65, 66, 67, 68, 69, 70, 71, 72, 73, 74, 75, 76, 77, 78, 79, 80, 81, 82, 83, 84, 85, 86, 87, 88, 89, 90, 91, 92] rfl
                          refine va_calli (va_runV (As := [.int ((p2 >>> (7 &&& 31)) &&& 3), .int ((f_L_low (p2 >>> (4 &&& 31)) 7) - 1)]) (rest := []) ⟨hx, hb, hml, hown, hts⟩ (c_X5_setReturn l dC dI cI cC cS a G H83.size ((p2 >>> (7 &&& 31)) &&& 3) ((f_L_low (p2 >>> (4 &&& 31)) 7) - 1) hG) (cwV 2 hts gL_act_X5_setReturn rfl rfl rfl (by decide +kernel) ⟨Nat.le_of_ble_eq_true rfl, Nat.le_of_ble_eq_true rfl⟩) (pV (q0 := 0) hK hPc hDc hN rfl rfl) rfl rfl hl.1 rfl (lv_room (Nat.le_of_ble_eq_true rfl)) dL_act_234 ⟨Nat.le_of_ble_eq_true rfl, Nat.le_of_ble_eq_true rfl⟩) hS (fun q _ h => hFc q h) hFc (fun r_84 u_84 t_84 H85 locs ht hvm hw hB hz1 hk1 hS => ?_)
                          obtain ⟨hw, hens86⟩ := hw
                          obtain ⟨hP1, hD1⟩ := hB
                          rw [ht] at hP1
                          have hw1 : r_84 = (f_X5_setReturn G ((p2 >>> (7 &&& 31)) &&& 3) ((f_L_low (p2 >>> (4 &&& 31)) 7) - 1)).1 := congrArg Prod.fst hw
                          have hw2 : u_84 = (f_X5_setReturn G ((p2 >>> (7 &&& 31)) &&& 3) ((f_L_low (p2 >>> (4 &&& 31)) 7) - 1)).2 := congrArg Prod.snd hw
                          clear hw
                          subst hw1
                          subst hw2
                          obtain ⟨hP, hD⟩ := va_join (wc := cDk a cI cC cS G) (wr := []) (w1 := cDk a cI cC cS ((f_X5_setReturn G ((p2 >>> (7 &&& 31)) &&& 3) ((f_L_low (p2 >>> (4 &&& 31)) 7) - 1)).2)) hP hD [0, 1, 2, 3, 4, 5, 6, 7, 8, 9, 10, 11, 12, 13, 14, 15, 16, 17, 18, 19, 20, 21, 22, 23, 24, 25, 26, 27, 28, 29, 30, 31, 32, 33, 34, 35, 36, 37, 38, 39, 40, 41, 42, 43, 44, 45, 46, 47, 48, 49, 50, 51, 52, 53, 54, 55, 56, 57, 58, 59, 60, 61, 62, 63, 64, 65, 66, 67, 68, 69, 70, 71, 72, 73, 74, 75, 76, 77, 78, 79, 80, 81, 82, 83, 84, 85, 86, 87, 88, 89, 90, 91, 92] [] rfl rfl (by decide) (by decide) hk1 hFc hP1 hD1
                          have hP : va_P (dC, dI) vwCl (cDk a cI cC cS ((f_X5_setReturn G ((p2 >>> (7 &&& 31)) &&& 3) ((f_L_low (p2 >>> (4 &&& 31)) 7) - 1)).2)) H85 := hP.sub [0, 1, 2, 3, 4, 5, 6, 7, 8, 9, 10, 11, 12, 13, 14, 15, 16, 17, 18, 19, 20, 21, 22, 23, 24, 25, 26, 27, 28, 29, 30, 31, 32, 33, 34, 35, 36, 37, 38, 39, 40, 41, 42, 43, 44, 45, 46, 47, 48, 49, 50, 51, 52, 53, 54, 55, 56, 57, 58, 59, 60, 61, 62, 63, 64, 65, 66, 67, 68, 69, 70, 71, 72, 73, 74, 75, 76, 77, 78, 79, 80, 81, 82, 83, 84, 85, 86, 87, 88, 89, 90, 91, 92] rfl
                          have hD : va_D (va_A (cDk a cI cC cS G) s.heap.size) (cDk a cI cC cS ((f_X5_setReturn G ((p2 >>> (7 &&& 31)) &&& 3) ((f_L_low (p2 >>> (4 &&& 31)) 7) - 1)).2)) := hD.sub [0, 1, 2, 3, 4, 5, 6, 7, 8, 9, 10, 11, 12, 13, 14, 15, 16, 17, 18, 19, 20, 21, 22, 23, 24, 25, 26, 27, 28, 29, 30, 31, 32, 33, 34, 35, 36, 37, 38, 39, 40, 41, 42, 43, 44, 45, 46, 47, 48, 49, 50, 51, 52, 53, 54, 55, 56, 57, 58, 59, 60, 61, 62, 63, 64, 65, 66, 67, 68, 69, 70, 71, 72, 73, 74, 75, 76, 77, 78, 79, 80, 81, 82, 83, 84, 85, 86, 87, 88, 89, 90, 91, 92] (by decide) rfl
                          obtain ⟨Gn87, eGn87⟩ : ∃ z : GR, z = (f_X5_setReturn G ((p2 >>> (7 &&& 31)) &&& 3) ((f_L_low (p2 >>> (4 &&& 31)) 7) - 1)).2 := ⟨_, rfl⟩
                          rw [sLet_eq, ← eGn87] at hR
                          rw [← eGn87] at hP hD
                          have hG88 : WFG Gn87 := by rw [eGn87]; exact hens86
                          exact W.iret (v := (f_X5_setReturn G ((p2 >>> (7 &&& 31)) &&& 3) ((f_L_low (p2 >>> (4 &&& 31)) 7) - 1)).1) hx hb hr (fun t ht hWw => ⟨⟨(f_X5_setReturn G ((p2 >>> (7 &&& 31)) &&& 3) ((f_L_low (p2 >>> (4 &&& 31)) 7) - 1)).1, Gn87, rfl, ⟨hR.symm.trans eR, hG88⟩, by rw [ht]; exact hP, hD⟩, hS.F ht⟩) hS.2.2 dL_act_237
                        · rw [if_neg c81] at hR
                          rcases Decidable.em ((p2 &&& 15) = 12) with c89 | c89
                          · rw [if_pos c89] at hR
                            refine lv_tableIn (tgt := 238) hx hb dL_act_33 (by rw [c89]; decide) (by rw [c89]; decide) (by rw [c89]; rfl) (by decide) ?_
                            refine lv_aload_n hx hb dL_act_238 rfl (lv_at hl 4 rfl) ?_
                            refine lv_iload_n hx hb dL_act_239 rfl (lv_at hl 3 rfl) ?_
                            refine lv_iconst (v := 3) hx hb dL_act_240 (by decide) ?_
                            have hFc : ∀ q : Nat, va_A [] H4.size q → (va_A (cDk a cI cC cS G) s.heap.size) q := roF hS hA
                            refine va_calli (va_runS (As := [.int (p2 >>> (4 &&& 31)), .int 3]) (rest := [.ref (a 0)]) ⟨hx, hb, hml, hown, hts⟩ (c_L_low l dC dI cI cC cS H4.size (p2 >>> (4 &&& 31)) 3 (by decide)) (va_cwS 2 hts gL_act_L_low rfl rfl rfl (by decide +kernel) ⟨Nat.le_of_ble_eq_true rfl, Nat.le_of_ble_eq_true rfl⟩) (pS hK (va_P_nil) (va_D_nil) hN) rfl rfl hl.1 rfl (lv_room (Nat.le_of_ble_eq_true rfl)) dL_act_241 ⟨Nat.le_of_ble_eq_true rfl, Nat.le_of_ble_eq_true rfl⟩) hS (fun q _ h => hFc q h) hFc (fun r_90 u_90 t_90 H91 locs ht hvm hw hB hz1 hk1 hS => ?_)
                            subst hw
                            have hP := ro_keep hP hk1
                            have hPc : va_P (dC, dI) vwCl (cDk a cI cC cS G) H91 := hP.sub [0, 1, 2, 3, 4, 5, 6, 7, 8, 9, 10, 11, 12, 13, 14, 15, 16, 17, 18, 19, 20, 21, 22, 23, 24, 25, 26, 27, 28, 29, 30, 31, 32, 33, 34, 35, 36, 37, 38, 39, 40, 41, 42, 43, 44, 45, 46, 47, 48, 49, 50, 51, 52, 53, 54, 55, 56, 57, 58, 59, 60, 61, 62, 63, 64, 65, 66, 67, 68, 69, 70, 71, 72, 73, 74, 75, 76, 77, 78, 79, 80, 81, 82, 83, 84, 85, 86, 87, 88, 89, 90, 91, 92] rfl
                            have hDc : va_D (va_A (cDk a cI cC cS G) s.heap.size) (cDk a cI cC cS G) := hD.sub [0, 1, 2, 3, 4, 5, 6, 7, 8, 9, 10, 11, 12, 13, 14, 15, 16, 17, 18, 19, 20, 21, 22, 23, 24, 25, 26, 27, 28, 29, 30, 31, 32, 33, 34, 35, 36, 37, 38, 39, 40, 41, 42, 43, 44, 45, 46, 47, 48, 49, 50, 51, 52, 53, 54, 55, 56, 57, 58, 59, 60, 61, 62, 63, 64, 65, 66, 67, 68, 69, 70, 71, 72, 73, 74, 75, 76, 77, 78, 79, 80, 81, 82, 83, 84, 85, 86, 87, 88, 89, 90, 91, 92] (by decide) rfl
                            have hFc : ∀ q : Nat, va_A (cDk a cI cC cS G) H91.size q → (va_A (cDk a cI cC cS G) s.heap.size) q := va_free hD hS hA [0, 1, 2, 3, 4, 5, 6, 7, 8, 9, 10, 11, 12, 13, 14, 15, 16, 17, 18, 19, 20, 21, 22, 23, 24, 25, 26, 27, 28, 29, 30, 31, 32, 33, 34, 35, 36, 37, 38, 39, 40, 41, 42, 43, 44, 45, 46, 47, 48, 49, 50, 51, 52, 53, 54, 55, 56, 57, 58, 59, 60, 61, 62, 63, 64, 65, 66, 67, 68, 69, 70, 71, 72, 73, 74, 75, 76, 77, 78, 79, 80, 81, 82, 83, 84, 85, 86, 87, 88, 89, 90, 91, 92] rfl
                            refine va_calli (va_runV (As := [.int (f_L_low (p2 >>> (4 &&& 31)) 3)]) (rest := []) ⟨hx, hb, hml, hown, hts⟩ (c_X5_store l dC dI cI cC cS a G H91.size (f_L_low (p2 >>> (4 &&& 31)) 3) hG) (cwV 1 hts gL_act_X5_store rfl rfl rfl (by decide +kernel) ⟨Nat.le_of_ble_eq_true rfl, Nat.le_of_ble_eq_true rfl⟩) (pV (q0 := 0) hK hPc hDc hN rfl rfl) rfl rfl hl.1 rfl (lv_room (Nat.le_of_ble_eq_true rfl)) dL_act_244 ⟨Nat.le_of_ble_eq_true rfl, Nat.le_of_ble_eq_true rfl⟩) hS (fun q _ h => hFc q h) hFc (fun r_92 u_92 t_92 H93 locs ht hvm hw hB hz1 hk1 hS => ?_)
                            obtain ⟨hw, hens94⟩ := hw
                            obtain ⟨hP1, hD1⟩ := hB
                            rw [ht] at hP1
                            have hw1 : r_92 = (f_X5_store G (f_L_low (p2 >>> (4 &&& 31)) 3)).1 := congrArg Prod.fst hw
                            have hw2 : u_92 = (f_X5_store G (f_L_low (p2 >>> (4 &&& 31)) 3)).2 := congrArg Prod.snd hw
                            clear hw
                            subst hw1
                            subst hw2
                            obtain ⟨hP, hD⟩ := va_join (wc := cDk a cI cC cS G) (wr := []) (w1 := cDk a cI cC cS ((f_X5_store G (f_L_low (p2 >>> (4 &&& 31)) 3)).2)) hP hD [0, 1, 2, 3, 4, 5, 6, 7, 8, 9, 10, 11, 12, 13, 14, 15, 16, 17, 18, 19, 20, 21, 22, 23, 24, 25, 26, 27, 28, 29, 30, 31, 32, 33, 34, 35, 36, 37, 38, 39, 40, 41, 42, 43, 44, 45, 46, 47, 48, 49, 50, 51, 52, 53, 54, 55, 56, 57, 58, 59, 60, 61, 62, 63, 64, 65, 66, 67, 68, 69, 70, 71, 72, 73, 74, 75, 76, 77, 78, 79, 80, 81, 82, 83, 84, 85, 86, 87, 88, 89, 90, 91, 92] [] rfl rfl (by decide) (by decide) hk1 hFc hP1 hD1
                            have hP : va_P (dC, dI) vwCl (cDk a cI cC cS ((f_X5_store G (f_L_low (p2 >>> (4 &&& 31)) 3)).2)) H93 := hP.sub [0, 1, 2, 3, 4, 5, 6, 7, 8, 9, 10, 11, 12, 13, 14, 15, 16, 17, 18, 19, 20, 21, 22, 23, 24, 25, 26, 27, 28, 29, 30, 31, 32, 33, 34, 35, 36, 37, 38, 39, 40, 41, 42, 43, 44, 45, 46, 47, 48, 49, 50, 51, 52, 53, 54, 55, 56, 57, 58, 59, 60, 61, 62, 63, 64, 65, 66, 67, 68, 69, 70, 71, 72, 73, 74, 75, 76, 77, 78, 79, 80, 81, 82, 83, 84, 85, 86, 87, 88, 89, 90, 91, 92] rfl
                            have hD : va_D (va_A (cDk a cI cC cS G) s.heap.size) (cDk a cI cC cS ((f_X5_store G (f_L_low (p2 >>> (4 &&& 31)) 3)).2)) := hD.sub [0, 1, 2, 3, 4, 5, 6, 7, 8, 9, 10, 11, 12, 13, 14, 15, 16, 17, 18, 19, 20, 21, 22, 23, 24, 25, 26, 27, 28, 29, 30, 31, 32, 33, 34, 35, 36, 37, 38, 39, 40, 41, 42, 43, 44, 45, 46, 47, 48, 49, 50, 51, 52, 53, 54, 55, 56, 57, 58, 59, 60, 61, 62, 63, 64, 65, 66, 67, 68, 69, 70, 71, 72, 73, 74, 75, 76, 77, 78, 79, 80, 81, 82, 83, 84, 85, 86, 87, 88, 89, 90, 91, 92] (by decide) rfl
                            obtain ⟨Gn95, eGn95⟩ : ∃ z : GR, z = (f_X5_store G (f_L_low (p2 >>> (4 &&& 31)) 3)).2 := ⟨_, rfl⟩
                            rw [sLet_eq, ← eGn95] at hR
                            rw [← eGn95] at hP hD
                            have hG96 : WFG Gn95 := by rw [eGn95]; exact hens94
                            exact W.iret (v := (f_X5_store G (f_L_low (p2 >>> (4 &&& 31)) 3)).1) hx hb hr (fun t ht hWw => ⟨⟨(f_X5_store G (f_L_low (p2 >>> (4 &&& 31)) 3)).1, Gn95, rfl, ⟨hR.symm.trans eR, hG96⟩, by rw [ht]; exact hP, hD⟩, hS.F ht⟩) hS.2.2 dL_act_247
                          · rw [if_neg c89] at hR
                            rcases Decidable.em ((p2 &&& 15) = 13) with c97 | c97
                            · rw [if_pos c97] at hR
                              refine lv_tableIn (tgt := 248) hx hb dL_act_33 (by rw [c97]; decide) (by rw [c97]; decide) (by rw [c97]; rfl) (by decide) ?_
                              refine lv_aload_n hx hb dL_act_248 rfl (lv_at hl 4 rfl) ?_
                              refine lv_iload_n hx hb dL_act_249 rfl (lv_at hl 3 rfl) ?_
                              refine lv_iconst (v := 3) hx hb dL_act_250 (by decide) ?_
                              have hFc : ∀ q : Nat, va_A [] H4.size q → (va_A (cDk a cI cC cS G) s.heap.size) q := roF hS hA
                              refine va_calli (va_runS (As := [.int (p2 >>> (4 &&& 31)), .int 3]) (rest := [.ref (a 0)]) ⟨hx, hb, hml, hown, hts⟩ (c_L_low l dC dI cI cC cS H4.size (p2 >>> (4 &&& 31)) 3 (by decide)) (va_cwS 2 hts gL_act_L_low rfl rfl rfl (by decide +kernel) ⟨Nat.le_of_ble_eq_true rfl, Nat.le_of_ble_eq_true rfl⟩) (pS hK (va_P_nil) (va_D_nil) hN) rfl rfl hl.1 rfl (lv_room (Nat.le_of_ble_eq_true rfl)) dL_act_251 ⟨Nat.le_of_ble_eq_true rfl, Nat.le_of_ble_eq_true rfl⟩) hS (fun q _ h => hFc q h) hFc (fun r_98 u_98 t_98 H99 locs ht hvm hw hB hz1 hk1 hS => ?_)
                              subst hw
                              have hP := ro_keep hP hk1
                              refine lv_iload_n hx hb dL_act_254 rfl (lv_at hl 5 rfl) ?_
                              refine lv_bipush (v := 6) hx hb dL_act_255 (by decide) ?_
                              refine lv_ishr hx hb dL_act_257 ?_
                              refine lv_bipush (v := 9) hx hb dL_act_258 (by decide) ?_
                              have hFc : ∀ q : Nat, va_A [] H99.size q → (va_A (cDk a cI cC cS G) s.heap.size) q := roF hS hA
                              refine va_calli (va_runS (As := [.int (p2 >>> (6 &&& 31)), .int 9]) (rest := [.int (f_L_low (p2 >>> (4 &&& 31)) 3), .ref (a 0)]) ⟨hx, hb, hml, hown, hts⟩ (c_L_low l dC dI cI cC cS H99.size (p2 >>> (6 &&& 31)) 9 (by decide)) (va_cwS 2 hts gL_act_L_low rfl rfl rfl (by decide +kernel) ⟨Nat.le_of_ble_eq_true rfl, Nat.le_of_ble_eq_true rfl⟩) (pS hK (va_P_nil) (va_D_nil) hN) rfl rfl hl.1 rfl (lv_room (Nat.le_of_ble_eq_true rfl)) dL_act_260 ⟨Nat.le_of_ble_eq_true rfl, Nat.le_of_ble_eq_true rfl⟩) hS (fun q _ h => hFc q h) hFc (fun r_100 u_100 t_100 H101 locs ht hvm hw hB hz1 hk1 hS => ?_)
                              subst hw
                              have hP := ro_keep hP hk1
                              have hPc : va_P (dC, dI) vwCl (cDk a cI cC cS G) H101 := hP.sub [0, 1, 2, 3, 4, 5, 6, 7, 8, 9, 10, 11, 12, 13, 14, 15, 16, 17, 18, 19, 20, 21, 22, 23, 24, 25, 26, 27, 28, 29, 30, 31, 32, 33, 34, 35, 36, 37, 38, 39, 40, 41, 42, 43, 44, 45, 46, 47, 48, 49, 50, 51, 52, 53, 54, 55, 56, 57, 58, 59, 60, 61, 62, 63, 64, 65, 66, 67, 68, 69, 70, 71, 72, 73, 74, 75, 76, 77, 78, 79, 80, 81, 82, 83, 84, 85, 86, 87, 88, 89, 90, 91, 92] rfl
                              have hDc : va_D (va_A (cDk a cI cC cS G) s.heap.size) (cDk a cI cC cS G) := hD.sub [0, 1, 2, 3, 4, 5, 6, 7, 8, 9, 10, 11, 12, 13, 14, 15, 16, 17, 18, 19, 20, 21, 22, 23, 24, 25, 26, 27, 28, 29, 30, 31, 32, 33, 34, 35, 36, 37, 38, 39, 40, 41, 42, 43, 44, 45, 46, 47, 48, 49, 50, 51, 52, 53, 54, 55, 56, 57, 58, 59, 60, 61, 62, 63, 64, 65, 66, 67, 68, 69, 70, 71, 72, 73, 74, 75, 76, 77, 78, 79, 80, 81, 82, 83, 84, 85, 86, 87, 88, 89, 90, 91, 92] (by decide) rfl
                              have hFc : ∀ q : Nat, va_A (cDk a cI cC cS G) H101.size q → (va_A (cDk a cI cC cS G) s.heap.size) q := va_free hD hS hA [0, 1, 2, 3, 4, 5, 6, 7, 8, 9, 10, 11, 12, 13, 14, 15, 16, 17, 18, 19, 20, 21, 22, 23, 24, 25, 26, 27, 28, 29, 30, 31, 32, 33, 34, 35, 36, 37, 38, 39, 40, 41, 42, 43, 44, 45, 46, 47, 48, 49, 50, 51, 52, 53, 54, 55, 56, 57, 58, 59, 60, 61, 62, 63, 64, 65, 66, 67, 68, 69, 70, 71, 72, 73, 74, 75, 76, 77, 78, 79, 80, 81, 82, 83, 84, 85, 86, 87, 88, 89, 90, 91, 92] rfl
                              refine va_calli (va_runV (As := [.int (f_L_low (p2 >>> (4 &&& 31)) 3), .int (f_L_low (p2 >>> (6 &&& 31)) 9)]) (rest := []) ⟨hx, hb, hml, hown, hts⟩ (c_X5_recall l dC dI cI cC cS a G H101.size (f_L_low (p2 >>> (4 &&& 31)) 3) (f_L_low (p2 >>> (6 &&& 31)) 9) hG) (cwV 2 hts gL_act_X5_recall rfl rfl rfl (by decide +kernel) ⟨Nat.le_of_ble_eq_true rfl, Nat.le_of_ble_eq_true rfl⟩) (pV (q0 := 0) hK hPc hDc hN rfl rfl) rfl rfl hl.1 rfl (lv_room (Nat.le_of_ble_eq_true rfl)) dL_act_263 ⟨Nat.le_of_ble_eq_true rfl, Nat.le_of_ble_eq_true rfl⟩) hS (fun q _ h => hFc q h) hFc (fun r_102 u_102 t_102 H103 locs ht hvm hw hB hz1 hk1 hS => ?_)
                              obtain ⟨hw, hens104⟩ := hw
                              obtain ⟨hP1, hD1⟩ := hB
                              rw [ht] at hP1
                              have hw1 : r_102 = (f_X5_recall G (f_L_low (p2 >>> (4 &&& 31)) 3) (f_L_low (p2 >>> (6 &&& 31)) 9)).1 := congrArg Prod.fst hw
                              have hw2 : u_102 = (f_X5_recall G (f_L_low (p2 >>> (4 &&& 31)) 3) (f_L_low (p2 >>> (6 &&& 31)) 9)).2 := congrArg Prod.snd hw
                              clear hw
                              subst hw1
                              subst hw2
                              obtain ⟨hP, hD⟩ := va_join (wc := cDk a cI cC cS G) (wr := []) (w1 := cDk a cI cC cS ((f_X5_recall G (f_L_low (p2 >>> (4 &&& 31)) 3) (f_L_low (p2 >>> (6 &&& 31)) 9)).2)) hP hD [0, 1, 2, 3, 4, 5, 6, 7, 8, 9, 10, 11, 12, 13, 14, 15, 16, 17, 18, 19, 20, 21, 22, 23, 24, 25, 26, 27, 28, 29, 30, 31, 32, 33, 34, 35, 36, 37, 38, 39, 40, 41, 42, 43, 44, 45, 46, 47, 48, 49, 50, 51, 52, 53, 54, 55, 56, 57, 58, 59, 60, 61, 62, 63, 64, 65, 66, 67, 68, 69, 70, 71, 72, 73, 74, 75, 76, 77, 78, 79, 80, 81, 82, 83, 84, 85, 86, 87, 88, 89, 90, 91, 92] [] rfl rfl (by decide) (by decide) hk1 hFc hP1 hD1
                              have hP : va_P (dC, dI) vwCl (cDk a cI cC cS ((f_X5_recall G (f_L_low (p2 >>> (4 &&& 31)) 3) (f_L_low (p2 >>> (6 &&& 31)) 9)).2)) H103 := hP.sub [0, 1, 2, 3, 4, 5, 6, 7, 8, 9, 10, 11, 12, 13, 14, 15, 16, 17, 18, 19, 20, 21, 22, 23, 24, 25, 26, 27, 28, 29, 30, 31, 32, 33, 34, 35, 36, 37, 38, 39, 40, 41, 42, 43, 44, 45, 46, 47, 48, 49, 50, 51, 52, 53, 54, 55, 56, 57, 58, 59, 60, 61, 62, 63, 64, 65, 66, 67, 68, 69, 70, 71, 72, 73, 74, 75, 76, 77, 78, 79, 80, 81, 82, 83, 84, 85, 86, 87, 88, 89, 90, 91, 92] rfl
                              have hD : va_D (va_A (cDk a cI cC cS G) s.heap.size) (cDk a cI cC cS ((f_X5_recall G (f_L_low (p2 >>> (4 &&& 31)) 3) (f_L_low (p2 >>> (6 &&& 31)) 9)).2)) := hD.sub [0, 1, 2, 3, 4, 5, 6, 7, 8, 9, 10, 11, 12, 13, 14, 15, 16, 17, 18, 19, 20, 21, 22, 23, 24, 25, 26, 27, 28, 29, 30, 31, 32, 33, 34, 35, 36, 37, 38, 39, 40, 41, 42, 43, 44, 45, 46, 47, 48, 49, 50, 51, 52, 53, 54, 55, 56, 57, 58, 59, 60, 61, 62, 63, 64, 65, 66, 67, 68, 69, 70, 71, 72, 73, 74, 75, 76, 77, 78, 79, 80, 81, 82, 83, 84, 85, 86, 87, 88, 89, 90, 91, 92] (by decide) rfl
                              obtain ⟨Gn105, eGn105⟩ : ∃ z : GR, z = (f_X5_recall G (f_L_low (p2 >>> (4 &&& 31)) 3) (f_L_low (p2 >>> (6 &&& 31)) 9)).2 := ⟨_, rfl⟩
                              rw [sLet_eq, ← eGn105] at hR
                              rw [← eGn105] at hP hD
                              have hG106 : WFG Gn105 := by rw [eGn105]; exact hens104
                              exact W.iret (v := (f_X5_recall G (f_L_low (p2 >>> (4 &&& 31)) 3) (f_L_low (p2 >>> (6 &&& 31)) 9)).1) hx hb hr (fun t ht hWw => ⟨⟨(f_X5_recall G (f_L_low (p2 >>> (4 &&& 31)) 3) (f_L_low (p2 >>> (6 &&& 31)) 9)).1, Gn105, rfl, ⟨hR.symm.trans eR, hG106⟩, by rw [ht]; exact hP, hD⟩, hS.F ht⟩) hS.2.2 dL_act_266
                            · rw [if_neg c97] at hR
                              rcases Decidable.em ((p2 &&& 15) = 14) with c107 | c107
                              · rw [if_pos c107] at hR
                                refine lv_tableIn (tgt := 267) hx hb dL_act_33 (by rw [c107]; decide) (by rw [c107]; decide) (by rw [c107]; rfl) (by decide) ?_
                                refine lv_aload_n hx hb dL_act_267 rfl (lv_at hl 4 rfl) ?_
                                have hPc : va_P (dC, dI) vwCl (cDk a cI cC cS G) H4 := hP.sub [0, 1, 2, 3, 4, 5, 6, 7, 8, 9, 10, 11, 12, 13, 14, 15, 16, 17, 18, 19, 20, 21, 22, 23, 24, 25, 26, 27, 28, 29, 30, 31, 32, 33, 34, 35, 36, 37, 38, 39, 40, 41, 42, 43, 44, 45, 46, 47, 48, 49, 50, 51, 52, 53, 54, 55, 56, 57, 58, 59, 60, 61, 62, 63, 64, 65, 66, 67, 68, 69, 70, 71, 72, 73, 74, 75, 76, 77, 78, 79, 80, 81, 82, 83, 84, 85, 86, 87, 88, 89, 90, 91, 92] rfl
                                have hDc : va_D (va_A (cDk a cI cC cS G) s.heap.size) (cDk a cI cC cS G) := hD.sub [0, 1, 2, 3, 4, 5, 6, 7, 8, 9, 10, 11, 12, 13, 14, 15, 16, 17, 18, 19, 20, 21, 22, 23, 24, 25, 26, 27, 28, 29, 30, 31, 32, 33, 34, 35, 36, 37, 38, 39, 40, 41, 42, 43, 44, 45, 46, 47, 48, 49, 50, 51, 52, 53, 54, 55, 56, 57, 58, 59, 60, 61, 62, 63, 64, 65, 66, 67, 68, 69, 70, 71, 72, 73, 74, 75, 76, 77, 78, 79, 80, 81, 82, 83, 84, 85, 86, 87, 88, 89, 90, 91, 92] (by decide) rfl
                                have hFc : ∀ q : Nat, va_A (cDk a cI cC cS G) H4.size q → (va_A (cDk a cI cC cS G) s.heap.size) q := va_free hD hS hA [0, 1, 2, 3, 4, 5, 6, 7, 8, 9, 10, 11, 12, 13, 14, 15, 16, 17, 18, 19, 20, 21, 22, 23, 24, 25, 26, 27, 28, 29, 30, 31, 32, 33, 34, 35, 36, 37, 38, 39, 40, 41, 42, 43, 44, 45, 46, 47, 48, 49, 50, 51, 52, 53, 54, 55, 56, 57, 58, 59, 60, 61, 62, 63, 64, 65, 66, 67, 68, 69, 70, 71, 72, 73, 74, 75, 76, 77, 78, 79, 80, 81, 82, 83, 84, 85, 86, 87, 88, 89, 90, 91, 92] rfl
                                refine va_calli (va_runV (As := []) (rest := []) ⟨hx, hb, hml, hown, hts⟩ (c_X5_reset l dC dI cI cC cS a G H4.size hG) (cwV 0 hts gL_act_X5_reset rfl rfl rfl (by decide +kernel) ⟨Nat.le_of_ble_eq_true rfl, Nat.le_of_ble_eq_true rfl⟩) (pV (q0 := 0) hK hPc hDc hN rfl rfl) rfl rfl hl.1 rfl (lv_room (Nat.le_of_ble_eq_true rfl)) dL_act_268 ⟨Nat.le_of_ble_eq_true rfl, Nat.le_of_ble_eq_true rfl⟩) hS (fun q _ h => hFc q h) hFc (fun r_108 u_108 t_108 H109 locs ht hvm hw hB hz1 hk1 hS => ?_)
                                obtain ⟨hw, hens110⟩ := hw
                                obtain ⟨hP1, hD1⟩ := hB
                                rw [ht] at hP1
                                have hw1 : r_108 = (f_X5_reset G).1 := congrArg Prod.fst hw
                                have hw2 : u_108 = (f_X5_reset G).2 := congrArg Prod.snd hw
                                clear hw
                                subst hw1
                                subst hw2
                                obtain ⟨hP, hD⟩ := va_join (wc := cDk a cI cC cS G) (wr := []) (w1 := cDk a cI cC cS ((f_X5_reset G).2)) hP hD [0, 1, 2, 3, 4, 5, 6, 7, 8, 9, 10, 11, 12, 13, 14, 15, 16, 17, 18, 19, 20, 21, 22, 23, 24, 25, 26, 27, 28, 29, 30, 31, 32, 33, 34, 35, 36, 37, 38, 39, 40, 41, 42, 43, 44, 45, 46, 47, 48, 49, 50, 51, 52, 53, 54, 55, 56, 57, 58, 59, 60, 61, 62, 63, 64, 65, 66, 67, 68, 69, 70, 71, 72, 73, 74, 75, 76, 77, 78, 79, 80, 81, 82, 83, 84, 85, 86, 87, 88, 89, 90, 91, 92] [] rfl rfl (by decide) (by decide) hk1 hFc hP1 hD1
                                have hP : va_P (dC, dI) vwCl (cDk a cI cC cS ((f_X5_reset G).2)) H109 := hP.sub [0, 1, 2, 3, 4, 5, 6, 7, 8, 9, 10, 11, 12, 13, 14, 15, 16, 17, 18, 19, 20, 21, 22, 23, 24, 25, 26, 27, 28, 29, 30, 31, 32, 33, 34, 35, 36, 37, 38, 39, 40, 41, 42, 43, 44, 45, 46, 47, 48, 49, 50, 51, 52, 53, 54, 55, 56, 57, 58, 59, 60, 61, 62, 63, 64, 65, 66, 67, 68, 69, 70, 71, 72, 73, 74, 75, 76, 77, 78, 79, 80, 81, 82, 83, 84, 85, 86, 87, 88, 89, 90, 91, 92] rfl
                                have hD : va_D (va_A (cDk a cI cC cS G) s.heap.size) (cDk a cI cC cS ((f_X5_reset G).2)) := hD.sub [0, 1, 2, 3, 4, 5, 6, 7, 8, 9, 10, 11, 12, 13, 14, 15, 16, 17, 18, 19, 20, 21, 22, 23, 24, 25, 26, 27, 28, 29, 30, 31, 32, 33, 34, 35, 36, 37, 38, 39, 40, 41, 42, 43, 44, 45, 46, 47, 48, 49, 50, 51, 52, 53, 54, 55, 56, 57, 58, 59, 60, 61, 62, 63, 64, 65, 66, 67, 68, 69, 70, 71, 72, 73, 74, 75, 76, 77, 78, 79, 80, 81, 82, 83, 84, 85, 86, 87, 88, 89, 90, 91, 92] (by decide) rfl
                                obtain ⟨Gn111, eGn111⟩ : ∃ z : GR, z = (f_X5_reset G).2 := ⟨_, rfl⟩
                                rw [sLet_eq, ← eGn111] at hR
                                rw [← eGn111] at hP hD
                                have hG112 : WFG Gn111 := by rw [eGn111]; exact hens110
                                exact W.iret (v := (f_X5_reset G).1) hx hb hr (fun t ht hWw => ⟨⟨(f_X5_reset G).1, Gn111, rfl, ⟨hR.symm.trans eR, hG112⟩, by rw [ht]; exact hP, hD⟩, hS.F ht⟩) hS.2.2 dL_act_271
                              · rw [if_neg c107] at hR
                                have tz0 : ¬ (p2 &&& 15).toInt = 0 := fun h => c5 (Int32.toInt_inj.mp (h.trans (by decide)))
                                have tz1 : ¬ (p2 &&& 15).toInt = 1 := fun h => c13 (Int32.toInt_inj.mp (h.trans (by decide)))
                                have tz2 : ¬ (p2 &&& 15).toInt = 2 := fun h => c19 (Int32.toInt_inj.mp (h.trans (by decide)))
                                have tz3 : ¬ (p2 &&& 15).toInt = 3 := fun h => c25 (Int32.toInt_inj.mp (h.trans (by decide)))
                                have tz4 : ¬ (p2 &&& 15).toInt = 4 := fun h => c31 (Int32.toInt_inj.mp (h.trans (by decide)))
                                have tz5 : ¬ (p2 &&& 15).toInt = 5 := fun h => c37 (Int32.toInt_inj.mp (h.trans (by decide)))
                                have tz6 : ¬ (p2 &&& 15).toInt = 6 := fun h => c49 (Int32.toInt_inj.mp (h.trans (by decide)))
                                have tz7 : ¬ (p2 &&& 15).toInt = 7 := fun h => c55 (Int32.toInt_inj.mp (h.trans (by decide)))
                                have tz8 : ¬ (p2 &&& 15).toInt = 8 := fun h => c61 (Int32.toInt_inj.mp (h.trans (by decide)))
                                have tz9 : ¬ (p2 &&& 15).toInt = 9 := fun h => c67 (Int32.toInt_inj.mp (h.trans (by decide)))
                                have tz10 : ¬ (p2 &&& 15).toInt = 10 := fun h => c73 (Int32.toInt_inj.mp (h.trans (by decide)))
                                have tz11 : ¬ (p2 &&& 15).toInt = 11 := fun h => c81 (Int32.toInt_inj.mp (h.trans (by decide)))
                                have tz12 : ¬ (p2 &&& 15).toInt = 12 := fun h => c89 (Int32.toInt_inj.mp (h.trans (by decide)))
                                have tz13 : ¬ (p2 &&& 15).toInt = 13 := fun h => c97 (Int32.toInt_inj.mp (h.trans (by decide)))
                                have tz14 : ¬ (p2 &&& 15).toInt = 14 := fun h => c107 (Int32.toInt_inj.mp (h.trans (by decide)))
                                refine lv_tableOut (tgt := 272) hx hb dL_act_33 (by omega) (by decide) ?_
                                refine lv_aload_n hx hb dL_act_272 rfl (lv_at hl 4 rfl) ?_
                                refine lv_iconst (v := 1) hx hb dL_act_273 (by decide) ?_
                                refine lv_iload_n hx hb dL_act_274 rfl (lv_at hl 3 rfl) ?_
                                refine lv_bipush (v := 9) hx hb dL_act_275 (by decide) ?_
                                have hFc : ∀ q : Nat, va_A [] H4.size q → (va_A (cDk a cI cC cS G) s.heap.size) q := roF hS hA
                                refine va_calli (va_runS (As := [.int (p2 >>> (4 &&& 31)), .int 9]) (rest := [.int 1, .ref (a 0)]) ⟨hx, hb, hml, hown, hts⟩ (c_L_low l dC dI cI cC cS H4.size (p2 >>> (4 &&& 31)) 9 (by decide)) (va_cwS 2 hts gL_act_L_low rfl rfl rfl (by decide +kernel) ⟨Nat.le_of_ble_eq_true rfl, Nat.le_of_ble_eq_true rfl⟩) (pS hK (va_P_nil) (va_D_nil) hN) rfl rfl hl.1 rfl (lv_room (Nat.le_of_ble_eq_true rfl)) dL_act_277 ⟨Nat.le_of_ble_eq_true rfl, Nat.le_of_ble_eq_true rfl⟩) hS (fun q _ h => hFc q h) hFc (fun r_113 u_113 t_113 H114 locs ht hvm hw hB hz1 hk1 hS => ?_)
                                subst hw
                                have hP := ro_keep hP hk1
                                refine lv_iadd hx hb dL_act_280 ?_
                                have hPc : va_P (dC, dI) vwCl (cDk a cI cC cS G) H114 := hP.sub [0, 1, 2, 3, 4, 5, 6, 7, 8, 9, 10, 11, 12, 13, 14, 15, 16, 17, 18, 19, 20, 21, 22, 23, 24, 25, 26, 27, 28, 29, 30, 31, 32, 33, 34, 35, 36, 37, 38, 39, 40, 41, 42, 43, 44, 45, 46, 47, 48, 49, 50, 51, 52, 53, 54, 55, 56, 57, 58, 59, 60, 61, 62, 63, 64, 65, 66, 67, 68, 69, 70, 71, 72, 73, 74, 75, 76, 77, 78, 79, 80, 81, 82, 83, 84, 85, 86, 87, 88, 89, 90, 91, 92] rfl
                                have hDc : va_D (va_A (cDk a cI cC cS G) s.heap.size) (cDk a cI cC cS G) := hD.sub [0, 1, 2, 3, 4, 5, 6, 7, 8, 9, 10, 11, 12, 13, 14, 15, 16, 17, 18, 19, 20, 21, 22, 23, 24, 25, 26, 27, 28, 29, 30, 31, 32, 33, 34, 35, 36, 37, 38, 39, 40, 41, 42, 43, 44, 45, 46, 47, 48, 49, 50, 51, 52, 53, 54, 55, 56, 57, 58, 59, 60, 61, 62, 63, 64, 65, 66, 67, 68, 69, 70, 71, 72, 73, 74, 75, 76, 77, 78, 79, 80, 81, 82, 83, 84, 85, 86, 87, 88, 89, 90, 91, 92] (by decide) rfl
                                have hFc : ∀ q : Nat, va_A (cDk a cI cC cS G) H114.size q → (va_A (cDk a cI cC cS G) s.heap.size) q := va_free hD hS hA [0, 1, 2, 3, 4, 5, 6, 7, 8, 9, 10, 11, 12, 13, 14, 15, 16, 17, 18, 19, 20, 21, 22, 23, 24, 25, 26, 27, 28, 29, 30, 31, 32, 33, 34, 35, 36, 37, 38, 39, 40, 41, 42, 43, 44, 45, 46, 47, 48, 49, 50, 51, 52, 53, 54, 55, 56, 57, 58, 59, 60, 61, 62, 63, 64, 65, 66, 67, 68, 69, 70, 71, 72, 73, 74, 75, 76, 77, 78, 79, 80, 81, 82, 83, 84, 85, 86, 87, 88, 89, 90, 91, 92] rfl
                                refine va_calli (va_runV (As := [.int ((1 : Int32) + (f_L_low (p2 >>> (4 &&& 31)) 9))]) (rest := []) ⟨hx, hb, hml, hown, hts⟩ (c_X5_run l dC dI cI cC cS a G H114.size ((1 : Int32) + (f_L_low (p2 >>> (4 &&& 31)) 9)) hG) (cwV 1 hts gL_act_X5_run rfl rfl rfl (by decide +kernel) ⟨Nat.le_of_ble_eq_true rfl, Nat.le_of_ble_eq_true rfl⟩) (pV (q0 := 0) hK hPc hDc hN rfl rfl) rfl rfl hl.1 rfl (lv_room (Nat.le_of_ble_eq_true rfl)) dL_act_281 ⟨Nat.le_of_ble_eq_true rfl, Nat.le_of_ble_eq_true rfl⟩) hS (fun q _ h => hFc q h) hFc (fun r_115 u_115 t_115 H116 locs ht hvm hw hB hz1 hk1 hS => ?_)
                                obtain ⟨hw, hens117⟩ := hw
                                obtain ⟨hP1, hD1⟩ := hB
                                rw [ht] at hP1
                                have hw1 : r_115 = (f_X5_run G ((1 : Int32) + (f_L_low (p2 >>> (4 &&& 31)) 9))).1 := congrArg Prod.fst hw
                                have hw2 : u_115 = (f_X5_run G ((1 : Int32) + (f_L_low (p2 >>> (4 &&& 31)) 9))).2 := congrArg Prod.snd hw
                                clear hw
                                subst hw1
                                subst hw2
                                obtain ⟨hP, hD⟩ := va_join (wc := cDk a cI cC cS G) (wr := []) (w1 := cDk a cI cC cS ((f_X5_run G ((1 : Int32) + (f_L_low (p2 >>> (4 &&& 31)) 9))).2)) hP hD [0, 1, 2, 3, 4, 5, 6, 7, 8, 9, 10, 11, 12, 13, 14, 15, 16, 17, 18, 19, 20, 21, 22, 23, 24, 25, 26, 27, 28, 29, 30, 31, 32, 33, 34, 35, 36, 37, 38, 39, 40, 41, 42, 43, 44, 45, 46, 47, 48, 49, 50, 51, 52, 53, 54, 55, 56, 57, 58, 59, 60, 61, 62, 63, 64, 65, 66, 67, 68, 69, 70, 71, 72, 73, 74, 75, 76, 77, 78, 79, 80, 81, 82, 83, 84, 85, 86, 87, 88, 89, 90, 91, 92] [] rfl rfl (by decide) (by decide) hk1 hFc hP1 hD1
                                have hP : va_P (dC, dI) vwCl (cDk a cI cC cS ((f_X5_run G ((1 : Int32) + (f_L_low (p2 >>> (4 &&& 31)) 9))).2)) H116 := hP.sub [0, 1, 2, 3, 4, 5, 6, 7, 8, 9, 10, 11, 12, 13, 14, 15, 16, 17, 18, 19, 20, 21, 22, 23, 24, 25, 26, 27, 28, 29, 30, 31, 32, 33, 34, 35, 36, 37, 38, 39, 40, 41, 42, 43, 44, 45, 46, 47, 48, 49, 50, 51, 52, 53, 54, 55, 56, 57, 58, 59, 60, 61, 62, 63, 64, 65, 66, 67, 68, 69, 70, 71, 72, 73, 74, 75, 76, 77, 78, 79, 80, 81, 82, 83, 84, 85, 86, 87, 88, 89, 90, 91, 92] rfl
                                have hD : va_D (va_A (cDk a cI cC cS G) s.heap.size) (cDk a cI cC cS ((f_X5_run G ((1 : Int32) + (f_L_low (p2 >>> (4 &&& 31)) 9))).2)) := hD.sub [0, 1, 2, 3, 4, 5, 6, 7, 8, 9, 10, 11, 12, 13, 14, 15, 16, 17, 18, 19, 20, 21, 22, 23, 24, 25, 26, 27, 28, 29, 30, 31, 32, 33, 34, 35, 36, 37, 38, 39, 40, 41, 42, 43, 44, 45, 46, 47, 48, 49, 50, 51, 52, 53, 54, 55, 56, 57, 58, 59, 60, 61, 62, 63, 64, 65, 66, 67, 68, 69, 70, 71, 72, 73, 74, 75, 76, 77, 78, 79, 80, 81, 82, 83, 84, 85, 86, 87, 88, 89, 90, 91, 92] (by decide) rfl
                                obtain ⟨Gn118, eGn118⟩ : ∃ z : GR, z = (f_X5_run G ((1 : Int32) + (f_L_low (p2 >>> (4 &&& 31)) 9))).2 := ⟨_, rfl⟩
                                rw [sLet_eq, ← eGn118] at hR
                                rw [← eGn118] at hP hD
                                have hG119 : WFG Gn118 := by rw [eGn118]; exact hens117
                                exact W.iret (v := (f_X5_run G ((1 : Int32) + (f_L_low (p2 >>> (4 &&& 31)) 9))).1) hx hb hr (fun t ht hWw => ⟨⟨(f_X5_run G ((1 : Int32) + (f_L_low (p2 >>> (4 &&& 31)) 9))).1, Gn118, rfl, ⟨hR.symm.trans eR, hG119⟩, by rw [ht]; exact hP, hD⟩, hS.F ht⟩) hS.2.2 dL_act_284
