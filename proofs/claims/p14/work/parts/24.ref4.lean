abbrev rm_X6_setChannel : Room := { frames := 2, cells := 0, slots := 0, locals := 43 }
def f_X6_setChannel (R : SR) (p1 : Int32) (p2 : Int32) (p3 : Int32) : Int32 × SR := sLet (sU R 6 0 0) (fun Rn2 : SR => (if (f_X6_isChannel p1) = 0 then ((-1), Rn2) else (if (f_X6_isPart p2 p3) = 0 then ((-1), Rn2) else sLet ((f_X6_act Rn2)) (fun Rn20 : SR => sLet ((f_X6_setByHand Rn20 p1 p2 p3)) (fun Rn33 : SR => (f_X6_of Rn20 p1 p2, Rn33))))))
set_option maxHeartbeats 4000000 in
set_option maxRecDepth 100000 in
theorem c_X6_setChannel (l : Launch) (dC : Nat → ClassId) (dI : Nat → Nat → Nat) (cI cC cS : ClassId) (a : Nat → Nat) (R : SR) (sz : Nat) (p1 : Int32) (p2 : Int32) (p3 : Int32) (ohv : vp_in (R 6 1) 6) (hI : RA R) (hs : RS R) : Met l yX6_setChannel wsX6_setChannel rm_X6_setChannel (PcG (dC, dI) (tyL cI cC cS) (cMd a cI R) sz [.ref (a 0), .int p1, .int p2, .int p3]) (va_Qi (fun (r : Int32) (u : SR) => (r, u) = f_X6_setChannel R p1 p2 p3 ∧ (RA u) ∧ (RS u)) (fun u U => va_P (dC, dI) vwCl (cMd a cI u) U.heap ∧ va_D (va_A (cMd a cI R) sz) (cMd a cI u)) (va_A (cMd a cI R) sz)) 0 0 (va_A (cMd a cI R) sz) := by
  refine Met.ofW (cc := cX6_setChannel) (maxL := 5) (ret := (some .int)) (by decide) rfl ?_
  intro p e s m args below meth c s₁ B hml hv
  obtain ⟨rfl, hsz, hP, hK, hD0, hN⟩ := hv
  have hx := B.exec
  have hb := B.bytes
  have hr := B.returns
  have hts := atoms_spec (ws := wsX6_setChannel) B.pre
  have hown : s.vm.findClass RX6 = some m.cls := findClass_of_methodNamed B.named
  have hlocks := B.notSynchronized
  subst hsz
  have hD := hD0.self (sz := s.heap.size)
  have hA : ∀ q : Nat, s.heap.size ≤ q → (va_A (cMd a cI R) s.heap.size) q := fun q h => Or.inr h
  have hS : va_S (va_A (cMd a cI R) s.heap.size) s.heap s.heap [] := va_S.rf
  have hin6 : ∀ w ∈ wsX60, w ∈ wsX6_setChannel := fun _ h => List.mem_cons_of_mem _ (List.mem_append_right _ h)
  have hl := lv_entry [.ref (a 0), .int p1, .int p2, .int p3] (n := 5) (Nat.le_of_ble_eq_true rfl)
  rw [lg_entry_eq]
  generalize (lg_sl [.ref (a 0), .int p1, .int p2, .int p3] ++ List.replicate (5 - (lg_sl [.ref (a 0), .int p1, .int p2, .int p3]).length) Slot.unset).toArray = ls at hl ⊢
  have hl : lv_has ls 5 [(0, .ref (a 0)), (1, .int p1), (2, .int p2), (3, .int p3)] := hl
  obtain ⟨R0, eR⟩ : ∃ z, z = f_X6_setChannel R p1 p2 p3 := ⟨_, rfl⟩
  have hR := eR
  rw [f_X6_setChannel] at hR
  refine lv_aload_n hx hb dX6_setChannel_0 rfl (lv_at hl 0 rfl) ?_
  refine lv_iconst (v := 0) hx hb dX6_setChannel_1 (by decide) ?_
  refine va_put (D := (dC, dI)) (ci := 6) (v := .int 0) (ty := .int) (C := RX6) (T := TX6) (N := 15) hx hb hts hin6 tyX6 tyX6_ok nmX6 hown hK hP hD hS 0 rfl rfl 0 (by decide) (hts (.fieldLink RX6 28 "FeedDeskModel" "thrown" "I") (List.mem_of_getElem? (i := 1) rfl)) (fun _ h9 => h9) rfl (by decide +kernel) rfl rfl (Nat.le_of_ble_eq_true rfl) dX6_setChannel_2 (fun H1 locs hP hD hS => ?_)
  have hP : va_P (dC, dI) vwCl (cMd a cI (sU R 6 0 0)) H1 := hP
  have hD : va_D (va_A (cMd a cI R) s.heap.size) (cMd a cI (sU R 6 0 0)) := hD
  obtain ⟨Rn2, eRn2⟩ : ∃ z : SR, z = sU R 6 0 0 := ⟨_, rfl⟩
  rw [sLet_eq, ← eRn2] at hR
  rw [← eRn2] at hP hD
  have ohv3 : vp_in (Rn2 6 1) 6 := (by rw [eRn2]; exact ohv)
  have hI4 : RA Rn2 := (by rw [eRn2]; exact hI)
  have hs5 : RS Rn2 := (by rw [eRn2]; exact hs)
  refine lv_iload_n hx hb dX6_setChannel_5 rfl (lv_at hl 1 rfl) ?_
  have hFc : ∀ q : Nat, va_A [] H1.size q → (va_A (cMd a cI R) s.heap.size) q := roF hS hA
  refine va_calli (va_runS (As := [.int p1]) (rest := []) ⟨hx, hb, hml, hown, hts⟩ (c_X6_isChannel l dC dI cI cC cS H1.size p1) (va_cwS 1 hts gX6_setChannel_X6_isChannel rfl rfl rfl (by decide +kernel) ⟨Nat.le_of_ble_eq_true rfl, Nat.le_of_ble_eq_true rfl⟩) (pS hK (va_P_nil) (va_D_nil) hN) rfl rfl hl.1 rfl (lv_room (Nat.le_of_ble_eq_true rfl)) dX6_setChannel_6 ⟨Nat.le_of_ble_eq_true rfl, Nat.le_of_ble_eq_true rfl⟩) hS (fun q _ h => hFc q h) hFc (fun r_6 u_6 t_6 H7 locs ht hvm hw hB hz1 hk1 hS => ?_)
  obtain ⟨hw, hre8⟩ := hw
  subst hw
  have hP := ro_keep hP hk1
  refine lv_if_eq (tgt := 20) hx hb dX6_setChannel_9 (by decide) (fun c9 => ?_) (fun c9 => ?_)
  · rw [if_pos c9] at hR
    refine lv_iconst (v := (-1)) hx hb dX6_setChannel_20 (by decide) ?_
    exact W.iret (v := (-1)) hx hb hr (fun t ht hWw => ⟨⟨(-1), Rn2, rfl, ⟨hR.symm.trans eR, hI4, hs5⟩, by rw [ht]; exact hP, hD⟩, hS.F ht⟩) hS.2.2 dX6_setChannel_21
  · rw [if_neg c9] at hR
    refine lv_iload_n hx hb dX6_setChannel_12 rfl (lv_at hl 2 rfl) ?_
    refine lv_iload_n hx hb dX6_setChannel_13 rfl (lv_at hl 3 rfl) ?_
    have hFc : ∀ q : Nat, va_A [] H7.size q → (va_A (cMd a cI R) s.heap.size) q := roF hS hA
    refine va_calli (va_runS (As := [.int p2, .int p3]) (rest := []) ⟨hx, hb, hml, hown, hts⟩ (c_X6_isPart l dC dI cI cC cS H7.size p2 p3) (va_cwS 2 hts gX6_setChannel_X6_isPart rfl rfl rfl (by decide +kernel) ⟨Nat.le_of_ble_eq_true rfl, Nat.le_of_ble_eq_true rfl⟩) (pS hK (va_P_nil) (va_D_nil) hN) rfl rfl hl.1 rfl (lv_room (Nat.le_of_ble_eq_true rfl)) dX6_setChannel_14 ⟨Nat.le_of_ble_eq_true rfl, Nat.le_of_ble_eq_true rfl⟩) hS (fun q _ h => hFc q h) hFc (fun r_10 u_10 t_10 H11 locs ht hvm hw hB hz1 hk1 hS => ?_)
    obtain ⟨hw, hre12⟩ := hw
    subst hw
    have hP := ro_keep hP hk1
    refine lv_if_ne (tgt := 22) hx hb dX6_setChannel_17 (by decide) (fun c13 => ?_) (fun c13 => ?_)
    · rw [if_neg c13] at hR
      refine lv_aload_n hx hb dX6_setChannel_22 rfl (lv_at hl 0 rfl) ?_
      have hPc : va_P (dC, dI) vwCl (cMd a cI Rn2) H11 := hP.sub [0, 1, 2, 3, 4, 5, 6] rfl
      have hDc : va_D (va_A (cMd a cI R) s.heap.size) (cMd a cI Rn2) := hD.sub [0, 1, 2, 3, 4, 5, 6] (by decide) rfl
      have hFc : ∀ q : Nat, va_A (cMd a cI Rn2) H11.size q → (va_A (cMd a cI R) s.heap.size) q := va_free hD hS hA [0, 1, 2, 3, 4, 5, 6] rfl
      refine va_callv (va_runV (As := []) (rest := []) ⟨hx, hb, hml, hown, hts⟩ (c_X6_act l dC dI cI cC cS a Rn2 H11.size ohv3) (cwV 0 hts gX6_setChannel_X6_act rfl rfl rfl (by decide +kernel) ⟨Nat.le_of_ble_eq_true rfl, Nat.le_of_ble_eq_true rfl⟩) (pV (q0 := 0) hK hPc hDc hN rfl rfl) rfl rfl hl.1 rfl (lv_room (Nat.le_of_ble_eq_true rfl)) dX6_setChannel_23 ⟨Nat.le_of_ble_eq_true rfl, Nat.le_of_ble_eq_true rfl⟩) hS (fun q _ h => hFc q h) hFc (fun u_14 t_14 H15 locs ht hvm hw hB hz1 hk1 hS => ?_)
      obtain ⟨hw, hens16, hens17, hens18, hens19⟩ := hw
      obtain ⟨hP1, hD1⟩ := hB
      rw [ht] at hP1
      subst hw
      obtain ⟨hP, hD⟩ := va_join (wc := cMd a cI Rn2) (wr := []) (w1 := cMd a cI (f_X6_act Rn2)) hP hD [0, 1, 2, 3, 4, 5, 6] [] rfl rfl (by decide) (by decide) hk1 hFc hP1 hD1
      have hP : va_P (dC, dI) vwCl (cMd a cI (f_X6_act Rn2)) H15 := hP.sub [0, 1, 2, 3, 4, 5, 6] rfl
      have hD : va_D (va_A (cMd a cI R) s.heap.size) (cMd a cI (f_X6_act Rn2)) := hD.sub [0, 1, 2, 3, 4, 5, 6] (by decide) rfl
      obtain ⟨Rn20, eRn20⟩ : ∃ z : SR, z = (f_X6_act Rn2) := ⟨_, rfl⟩
      rw [sLet_eq, ← eRn20] at hR
      rw [← eRn20] at hP hD
      have hI22 : RA Rn20 := (by rw [eRn20]; exact ra_eq hI4 hens16)
      have hs23 : RS Rn20 := (by rw [eRn20]; exact rs_eq0 hs5 hens16)
      refine lv_aload_n hx hb dX6_setChannel_26 rfl (lv_at hl 0 rfl) ?_
      refine lv_iload_n hx hb dX6_setChannel_27 rfl (lv_at hl 1 rfl) ?_
      refine lv_iload_n hx hb dX6_setChannel_28 rfl (lv_at hl 2 rfl) ?_
      have hPc : va_P (dC, dI) vwCl (cMd a cI Rn20) H15 := hP.sub [0, 1, 2, 3, 4, 5, 6] rfl
      have hDc : va_D (va_A (cMd a cI R) s.heap.size) (cMd a cI Rn20) := hD.sub [0, 1, 2, 3, 4, 5, 6] (by decide) rfl
      have hFc : ∀ q : Nat, va_A [] H15.size q → (va_A (cMd a cI R) s.heap.size) q := roF hS hA
      refine va_calli (va_runV (As := [.int p1, .int p2]) (rest := []) ⟨hx, hb, hml, hown, hts⟩ (c_X6_of l dC dI cI cC cS a Rn20 H15.size p1 p2 (ch_vp c9) (part_vp c13)) (cwV 2 hts gX6_setChannel_X6_of rfl rfl rfl (by decide +kernel) ⟨Nat.le_of_ble_eq_true rfl, Nat.le_of_ble_eq_true rfl⟩) (pV (q0 := 0) hK hPc hDc hN rfl rfl) rfl rfl hl.1 rfl (lv_room (Nat.le_of_ble_eq_true rfl)) dX6_setChannel_29 ⟨Nat.le_of_ble_eq_true rfl, Nat.le_of_ble_eq_true rfl⟩) hS (fun q _ h => hFc q h) hFc (fun r_24 u_24 t_24 H25 locs ht hvm hw hB hz1 hk1 hS => ?_)
      subst hw
      have hP := ro_keep hP hk1
      refine lv_istore (lv' := [(4, .int (f_X6_of Rn20 p1 p2)), (0, .ref (a 0)), (1, .int p1), (2, .int p2), (3, .int p3)]) hx hb dX6_setChannel_32 hl (by decide) rfl (fun ls hl => ?_)
      refine lv_aload_n hx hb dX6_setChannel_34 rfl (lv_at hl 1 rfl) ?_
      refine lv_iload_n hx hb dX6_setChannel_35 rfl (lv_at hl 2 rfl) ?_
      refine lv_iload_n hx hb dX6_setChannel_36 rfl (lv_at hl 3 rfl) ?_
      refine lv_iload_n hx hb dX6_setChannel_37 rfl (lv_at hl 4 rfl) ?_
      have hPc : va_P (dC, dI) vwCl (cMd a cI Rn20) H25 := hP.sub [0, 1, 2, 3, 4, 5, 6] rfl
      have hDc : va_D (va_A (cMd a cI R) s.heap.size) (cMd a cI Rn20) := hD.sub [0, 1, 2, 3, 4, 5, 6] (by decide) rfl
      have hFc : ∀ q : Nat, va_A (cMd a cI Rn20) H25.size q → (va_A (cMd a cI R) s.heap.size) q := va_free hD hS hA [0, 1, 2, 3, 4, 5, 6] rfl
      refine va_callv (va_runV (As := [.int p1, .int p2, .int p3]) (rest := []) ⟨hx, hb, hml, hown, hts⟩ (c_X6_setByHand l dC dI cI cC cS a Rn20 H25.size p1 p2 p3 (ch_vp c9) (part_vp c13) hI22 hs23) (cwV 3 hts gX6_setChannel_X6_setByHand rfl rfl rfl (by decide +kernel) ⟨Nat.le_of_ble_eq_true rfl, Nat.le_of_ble_eq_true rfl⟩) (pV (q0 := 0) hK hPc hDc hN rfl rfl) rfl rfl hl.1 rfl (lv_room (Nat.le_of_ble_eq_true rfl)) dX6_setChannel_38 ⟨Nat.le_of_ble_eq_true rfl, Nat.le_of_ble_eq_true rfl⟩) hS (fun q _ h => hFc q h) hFc (fun u_26 t_26 H27 locs ht hvm hw hB hz1 hk1 hS => ?_)
      obtain ⟨hw, hens28, hens29, hens30, hens31, hens32⟩ := hw
      obtain ⟨hP1, hD1⟩ := hB
      rw [ht] at hP1
      subst hw
      obtain ⟨hP, hD⟩ := va_join (wc := cMd a cI Rn20) (wr := []) (w1 := cMd a cI (f_X6_setByHand Rn20 p1 p2 p3)) hP hD [0, 1, 2, 3, 4, 5, 6] [] rfl rfl (by decide) (by decide) hk1 hFc hP1 hD1
      have hP : va_P (dC, dI) vwCl (cMd a cI (f_X6_setByHand Rn20 p1 p2 p3)) H27 := hP.sub [0, 1, 2, 3, 4, 5, 6] rfl
      have hD : va_D (va_A (cMd a cI R) s.heap.size) (cMd a cI (f_X6_setByHand Rn20 p1 p2 p3)) := hD.sub [0, 1, 2, 3, 4, 5, 6] (by decide) rfl
      obtain ⟨Rn33, eRn33⟩ : ∃ z : SR, z = (f_X6_setByHand Rn20 p1 p2 p3) := ⟨_, rfl⟩
      rw [sLet_eq, ← eRn33] at hR
      rw [← eRn33] at hP hD
      have hI35 : RA Rn33 := by rw [eRn33]; exact hens28
      have hs36 : RS Rn33 := by rw [eRn33]; exact hens29
      have hq37 : FX Rn20 Rn33 := by rw [eRn33]; exact hens30
      refine lv_iload hx hb dX6_setChannel_41 (lv_at hl 0 rfl) ?_
      exact W.iret (v := f_X6_of Rn20 p1 p2) hx hb hr (fun t ht hWw => ⟨⟨f_X6_of Rn20 p1 p2, Rn33, rfl, ⟨hR.symm.trans eR, hI35, hs36⟩, by rw [ht]; exact hP, hD⟩, hS.F ht⟩) hS.2.2 dX6_setChannel_43
    · rw [if_pos c13] at hR
      refine lv_iconst (v := (-1)) hx hb dX6_setChannel_20 (by decide) ?_
      exact W.iret (v := (-1)) hx hb hr (fun t ht hWw => ⟨⟨(-1), Rn2, rfl, ⟨hR.symm.trans eR, hI4, hs5⟩, by rw [ht]; exact hP, hD⟩, hS.F ht⟩) hS.2.2 dX6_setChannel_21
abbrev rm_X6_setGroup : Room := { frames := 2, cells := 0, slots := 0, locals := 42 }
def f_X6_setGroup (R : SR) (p1 : Int32) (p2 : Int32) (p3 : Int32) : Int32 × SR := sLet (sU R 6 0 0) (fun Rn2 : SR => (if (f_X6_isFour p1) = 0 then ((-1), Rn2) else (if (f_X6_in p2 0 1) = 0 then ((-1), Rn2) else (if p2 = 0 then (if (f_X6_in p3 0 100) = 0 then ((-1), Rn2) else sLet ((f_X6_act Rn2)) (fun Rn84 : SR => (if p2 = 0 then sLet (sU Rn84 0 (72 + p1).toNatClampNeg p3) (fun Rn112 : SR => (if (Rn112 0 144) < 0 then sLet (sU Rn112 0 180 ((Rn112 0 180) ||| 0)) (fun Rn118 : SR => (Rn84 0 (72 + p1).toNatClampNeg, Rn118)) else (if p2 = 0 then sLet (sU Rn112 0 180 ((Rn112 0 180) ||| (1 <<< (p1 &&& 31)))) (fun Rn129 : SR => (Rn84 0 (72 + p1).toNatClampNeg, Rn129)) else sLet (sU Rn112 0 180 ((Rn112 0 180) ||| 0)) (fun Rn124 : SR => (Rn84 0 (72 + p1).toNatClampNeg, Rn124))))) else sLet (sU Rn84 0 (76 + p1).toNatClampNeg p3) (fun Rn90 : SR => (if (Rn90 0 144) < 0 then sLet (sU Rn90 0 180 ((Rn90 0 180) ||| 0)) (fun Rn96 : SR => (Rn84 0 (76 + p1).toNatClampNeg, Rn96)) else (if p2 = 0 then sLet (sU Rn90 0 180 ((Rn90 0 180) ||| (1 <<< (p1 &&& 31)))) (fun Rn107 : SR => (Rn84 0 (76 + p1).toNatClampNeg, Rn107)) else sLet (sU Rn90 0 180 ((Rn90 0 180) ||| 0)) (fun Rn102 : SR => (Rn84 0 (76 + p1).toNatClampNeg, Rn102)))))))) else (if (f_X6_in p3 0 1) = 0 then ((-1), Rn2) else sLet ((f_X6_act Rn2)) (fun Rn25 : SR => (if p2 = 0 then sLet (sU Rn25 0 (72 + p1).toNatClampNeg p3) (fun Rn53 : SR => (if (Rn53 0 144) < 0 then sLet (sU Rn53 0 180 ((Rn53 0 180) ||| 0)) (fun Rn59 : SR => (Rn25 0 (72 + p1).toNatClampNeg, Rn59)) else (if p2 = 0 then sLet (sU Rn53 0 180 ((Rn53 0 180) ||| (1 <<< (p1 &&& 31)))) (fun Rn70 : SR => (Rn25 0 (72 + p1).toNatClampNeg, Rn70)) else sLet (sU Rn53 0 180 ((Rn53 0 180) ||| 0)) (fun Rn65 : SR => (Rn25 0 (72 + p1).toNatClampNeg, Rn65))))) else sLet (sU Rn25 0 (76 + p1).toNatClampNeg p3) (fun Rn31 : SR => (if (Rn31 0 144) < 0 then sLet (sU Rn31 0 180 ((Rn31 0 180) ||| 0)) (fun Rn37 : SR => (Rn25 0 (76 + p1).toNatClampNeg, Rn37)) else (if p2 = 0 then sLet (sU Rn31 0 180 ((Rn31 0 180) ||| (1 <<< (p1 &&& 31)))) (fun Rn48 : SR => (Rn25 0 (76 + p1).toNatClampNeg, Rn48)) else sLet (sU Rn31 0 180 ((Rn31 0 180) ||| 0)) (fun Rn43 : SR => (Rn25 0 (76 + p1).toNatClampNeg, Rn43))))))))))))
theorem ok_38 : ∀ q0 : Nat, q0 < 4 → okR (76 + (nI q0)).toNatClampNeg = true := by decide +kernel
theorem ok_39 : ∀ q0 : Nat, q0 < 4 → okT (76 + (nI q0)).toNatClampNeg = true := by decide +kernel
theorem ok_40 : ∀ q0 : Nat, q0 < 4 → okR (72 + (nI q0)).toNatClampNeg = true := by decide +kernel
theorem ok_41 : ∀ q0 : Nat, q0 < 4 → okT (72 + (nI q0)).toNatClampNeg = true := by decide +kernel
set_option maxHeartbeats 4000000 in
set_option maxRecDepth 100000 in
theorem c_X6_setGroup (l : Launch) (dC : Nat → ClassId) (dI : Nat → Nat → Nat) (cI cC cS : ClassId) (a : Nat → Nat) (R : SR) (sz : Nat) (p1 : Int32) (p2 : Int32) (p3 : Int32) (ohv : vp_in (R 6 1) 6) (hI : RA R) (hs : RS R) : Met l yX6_setGroup wsX6_setGroup rm_X6_setGroup (PcG (dC, dI) (tyL cI cC cS) (cMd a cI R) sz [.ref (a 0), .int p1, .int p2, .int p3]) (va_Qi (fun (r : Int32) (u : SR) => (r, u) = f_X6_setGroup R p1 p2 p3 ∧ (RA u) ∧ (RS u)) (fun u U => va_P (dC, dI) vwCl (cMd a cI u) U.heap ∧ va_D (va_A (cMd a cI R) sz) (cMd a cI u)) (va_A (cMd a cI R) sz)) 0 0 (va_A (cMd a cI R) sz) := by
  refine Met.ofW (cc := cX6_setGroup) (maxL := 6) (ret := (some .int)) (by decide) rfl ?_
  intro p e s m args below meth c s₁ B hml hv
  obtain ⟨rfl, hsz, hP, hK, hD0, hN⟩ := hv
  have hx := B.exec
  have hb := B.bytes
  have hr := B.returns
  have hts := atoms_spec (ws := wsX6_setGroup) B.pre
  have hown : s.vm.findClass RX6 = some m.cls := findClass_of_methodNamed B.named
  have hlocks := B.notSynchronized
  subst hsz
  have hD := hD0.self (sz := s.heap.size)
  have hA : ∀ q : Nat, s.heap.size ≤ q → (va_A (cMd a cI R) s.heap.size) q := fun q h => Or.inr h
  have hS : va_S (va_A (cMd a cI R) s.heap.size) s.heap s.heap [] := va_S.rf
  have hin6 : ∀ w ∈ wsX60, w ∈ wsX6_setGroup := fun _ h => List.mem_cons_of_mem _ (List.mem_append_right _ h)
  have hl := lv_entry [.ref (a 0), .int p1, .int p2, .int p3] (n := 6) (Nat.le_of_ble_eq_true rfl)
  rw [lg_entry_eq]
  generalize (lg_sl [.ref (a 0), .int p1, .int p2, .int p3] ++ List.replicate (6 - (lg_sl [.ref (a 0), .int p1, .int p2, .int p3]).length) Slot.unset).toArray = ls at hl ⊢
  have hl : lv_has ls 6 [(0, .ref (a 0)), (1, .int p1), (2, .int p2), (3, .int p3)] := hl
  obtain ⟨R0, eR⟩ : ∃ z, z = f_X6_setGroup R p1 p2 p3 := ⟨_, rfl⟩
  have hR := eR
  rw [f_X6_setGroup] at hR
  refine lv_aload_n hx hb dX6_setGroup_0 rfl (lv_at hl 0 rfl) ?_
  refine lv_iconst (v := 0) hx hb dX6_setGroup_1 (by decide) ?_
  refine va_put (D := (dC, dI)) (ci := 6) (v := .int 0) (ty := .int) (C := RX6) (T := TX6) (N := 15) hx hb hts hin6 tyX6 tyX6_ok nmX6 hown hK hP hD hS 0 rfl rfl 0 (by decide) (hts (.fieldLink RX6 28 "FeedDeskModel" "thrown" "I") (List.mem_of_getElem? (i := 1) rfl)) (fun _ h9 => h9) rfl (by decide +kernel) rfl rfl (Nat.le_of_ble_eq_true rfl) dX6_setGroup_2 (fun H1 locs hP hD hS => ?_)
  have hP : va_P (dC, dI) vwCl (cMd a cI (sU R 6 0 0)) H1 := hP
  have hD : va_D (va_A (cMd a cI R) s.heap.size) (cMd a cI (sU R 6 0 0)) := hD
  obtain ⟨Rn2, eRn2⟩ : ∃ z : SR, z = sU R 6 0 0 := ⟨_, rfl⟩
  rw [sLet_eq, ← eRn2] at hR
  rw [← eRn2] at hP hD
  have ohv3 : vp_in (Rn2 6 1) 6 := (by rw [eRn2]; exact ohv)
  have hI4 : RA Rn2 := (by rw [eRn2]; exact hI)
  have hs5 : RS Rn2 := (by rw [eRn2]; exact hs)
  refine lv_iload_n hx hb dX6_setGroup_5 rfl (lv_at hl 1 rfl) ?_
  have hFc : ∀ q : Nat, va_A [] H1.size q → (va_A (cMd a cI R) s.heap.size) q := roF hS hA
  refine va_calli (va_runS (As := [.int p1]) (rest := []) ⟨hx, hb, hml, hown, hts⟩ (c_X6_isFour l dC dI cI cC cS H1.size p1) (va_cwS 1 hts gX6_setGroup_X6_isFour rfl rfl rfl (by decide +kernel) ⟨Nat.le_of_ble_eq_true rfl, Nat.le_of_ble_eq_true rfl⟩) (pS hK (va_P_nil) (va_D_nil) hN) rfl rfl hl.1 rfl (lv_room (Nat.le_of_ble_eq_true rfl)) dX6_setGroup_6 ⟨Nat.le_of_ble_eq_true rfl, Nat.le_of_ble_eq_true rfl⟩) hS (fun q _ h => hFc q h) hFc (fun r_6 u_6 t_6 H7 locs ht hvm hw hB hz1 hk1 hS => ?_)
  obtain ⟨hw, hre8⟩ := hw
  subst hw
  have hP := ro_keep hP hk1
  refine lv_if_eq (tgt := 39) hx hb dX6_setGroup_9 (by decide) (fun c9 => ?_) (fun c9 => ?_)
  · rw [if_pos c9] at hR
    refine lv_iconst (v := (-1)) hx hb dX6_setGroup_39 (by decide) ?_
    exact W.iret (v := (-1)) hx hb hr (fun t ht hWw => ⟨⟨(-1), Rn2, rfl, ⟨hR.symm.trans eR, hI4, hs5⟩, by rw [ht]; exact hP, hD⟩, hS.F ht⟩) hS.2.2 dX6_setGroup_40
  · rw [if_neg c9] at hR
    obtain ⟨ip1, hip1, ep1⟩ := vp_in_of (four_vp c9) (by decide)
    refine lv_iload_n hx hb dX6_setGroup_12 rfl (lv_at hl 2 rfl) ?_
    refine lv_iconst (v := 0) hx hb dX6_setGroup_13 (by decide) ?_
    refine lv_iconst (v := 1) hx hb dX6_setGroup_14 (by decide) ?_
    have hFc : ∀ q : Nat, va_A [] H7.size q → (va_A (cMd a cI R) s.heap.size) q := roF hS hA
    refine va_calli (va_runS (As := [.int p2, .int 0, .int 1]) (rest := []) ⟨hx, hb, hml, hown, hts⟩ (c_X6_in l dC dI cI cC cS H7.size p2 0 1) (va_cwS 3 hts gX6_setGroup_X6_in rfl rfl rfl (by decide +kernel) ⟨Nat.le_of_ble_eq_true rfl, Nat.le_of_ble_eq_true rfl⟩) (pS hK (va_P_nil) (va_D_nil) hN) rfl rfl hl.1 rfl (lv_room (Nat.le_of_ble_eq_true rfl)) dX6_setGroup_15 ⟨Nat.le_of_ble_eq_true rfl, Nat.le_of_ble_eq_true rfl⟩) hS (fun q _ h => hFc q h) hFc (fun r_10 u_10 t_10 H11 locs ht hvm hw hB hz1 hk1 hS => ?_)
    obtain ⟨hw, hre12⟩ := hw
    subst hw
    have hP := ro_keep hP hk1
    refine lv_if_eq (tgt := 39) hx hb dX6_setGroup_18 (by decide) (fun c13 => ?_) (fun c13 => ?_)
    · rw [if_pos c13] at hR
      refine lv_iconst (v := (-1)) hx hb dX6_setGroup_39 (by decide) ?_
      exact W.iret (v := (-1)) hx hb hr (fun t ht hWw => ⟨⟨(-1), Rn2, rfl, ⟨hR.symm.trans eR, hI4, hs5⟩, by rw [ht]; exact hP, hD⟩, hS.F ht⟩) hS.2.2 dX6_setGroup_40
    · rw [if_neg c13] at hR
      refine lv_iload_n hx hb dX6_setGroup_21 rfl (lv_at hl 3 rfl) ?_
      refine lv_iconst (v := 0) hx hb dX6_setGroup_22 (by decide) ?_
      refine lv_iload_n hx hb dX6_setGroup_23 rfl (lv_at hl 2 rfl) ?_
      refine lv_if_ne (tgt := 32) hx hb dX6_setGroup_24 (by decide) (fun c14 => ?_) (fun c14 => ?_)
      · rw [if_neg c14] at hR
        refine lv_iconst (v := 1) hx hb dX6_setGroup_32 (by decide) ?_
        have hFc : ∀ q : Nat, va_A [] H11.size q → (va_A (cMd a cI R) s.heap.size) q := roF hS hA
        refine va_calli (va_runS (As := [.int p3, .int 0, .int 1]) (rest := []) ⟨hx, hb, hml, hown, hts⟩ (c_X6_in l dC dI cI cC cS H11.size p3 0 1) (va_cwS 3 hts gX6_setGroup_X6_in rfl rfl rfl (by decide +kernel) ⟨Nat.le_of_ble_eq_true rfl, Nat.le_of_ble_eq_true rfl⟩) (pS hK (va_P_nil) (va_D_nil) hN) rfl rfl hl.1 rfl (lv_room (Nat.le_of_ble_eq_true rfl)) dX6_setGroup_33 ⟨Nat.le_of_ble_eq_true rfl, Nat.le_of_ble_eq_true rfl⟩) hS (fun q _ h => hFc q h) hFc (fun r_15 u_15 t_15 H16 locs ht hvm hw hB hz1 hk1 hS => ?_)
        obtain ⟨hw, hre17⟩ := hw
        subst hw
        have hP := ro_keep hP hk1
        refine lv_if_ne (tgt := 41) hx hb dX6_setGroup_36 (by decide) (fun c18 => ?_) (fun c18 => ?_)
        · rw [if_neg c18] at hR
          refine lv_aload_n hx hb dX6_setGroup_41 rfl (lv_at hl 0 rfl) ?_
          have hPc : va_P (dC, dI) vwCl (cMd a cI Rn2) H16 := hP.sub [0, 1, 2, 3, 4, 5, 6] rfl
          have hDc : va_D (va_A (cMd a cI R) s.heap.size) (cMd a cI Rn2) := hD.sub [0, 1, 2, 3, 4, 5, 6] (by decide) rfl
          have hFc : ∀ q : Nat, va_A (cMd a cI Rn2) H16.size q → (va_A (cMd a cI R) s.heap.size) q := va_free hD hS hA [0, 1, 2, 3, 4, 5, 6] rfl
          refine va_callv (va_runV (As := []) (rest := []) ⟨hx, hb, hml, hown, hts⟩ (c_X6_act l dC dI cI cC cS a Rn2 H16.size ohv3) (cwV 0 hts gX6_setGroup_X6_act rfl rfl rfl (by decide +kernel) ⟨Nat.le_of_ble_eq_true rfl, Nat.le_of_ble_eq_true rfl⟩) (pV (q0 := 0) hK hPc hDc hN rfl rfl) rfl rfl hl.1 rfl (lv_room (Nat.le_of_ble_eq_true rfl)) dX6_setGroup_42 ⟨Nat.le_of_ble_eq_true rfl, Nat.le_of_ble_eq_true rfl⟩) hS (fun q _ h => hFc q h) hFc (fun u_19 t_19 H20 locs ht hvm hw hB hz1 hk1 hS => ?_)
          obtain ⟨hw, hens21, hens22, hens23, hens24⟩ := hw
          obtain ⟨hP1, hD1⟩ := hB
          rw [ht] at hP1
          subst hw
          obtain ⟨hP, hD⟩ := va_join (wc := cMd a cI Rn2) (wr := []) (w1 := cMd a cI (f_X6_act Rn2)) hP hD [0, 1, 2, 3, 4, 5, 6] [] rfl rfl (by decide) (by decide) hk1 hFc hP1 hD1
          have hP : va_P (dC, dI) vwCl (cMd a cI (f_X6_act Rn2)) H20 := hP.sub [0, 1, 2, 3, 4, 5, 6] rfl
          have hD : va_D (va_A (cMd a cI R) s.heap.size) (cMd a cI (f_X6_act Rn2)) := hD.sub [0, 1, 2, 3, 4, 5, 6] (by decide) rfl
          obtain ⟨Rn25, eRn25⟩ : ∃ z : SR, z = (f_X6_act Rn2) := ⟨_, rfl⟩
          rw [sLet_eq, ← eRn25] at hR
          rw [← eRn25] at hP hD
          have hI27 : RA Rn25 := (by rw [eRn25]; exact ra_eq hI4 hens21)
          have hs28 : RS Rn25 := (by rw [eRn25]; exact rs_eq0 hs5 hens21)
          refine lv_iload_n hx hb dX6_setGroup_45 rfl (lv_at hl 2 rfl) ?_
          refine lv_if_ne (tgt := 54) hx hb dX6_setGroup_46 (by decide) (fun c29 => ?_) (fun c29 => ?_)
          · rw [if_neg c29] at hR
            refine lv_bipush (v := 76) hx hb dX6_setGroup_54 (by decide) ?_
            refine lv_iload_n hx hb dX6_setGroup_56 rfl (lv_at hl 1 rfl) ?_
            refine lv_iadd hx hb dX6_setGroup_57 ?_
            refine lv_istore (lv' := [(4, .int (76 + p1)), (0, .ref (a 0)), (1, .int p1), (2, .int p2), (3, .int p3)]) hx hb dX6_setGroup_58 hl (by decide) rfl (fun ls hl => ?_)
            refine lv_aload_n hx hb dX6_setGroup_60 rfl (lv_at hl 1 rfl) ?_
            refine va_get (D := (dC, dI)) (ci := 6) (v := .ref (a 1)) (C := RX6) (T := TX6) (N := 15) hx hb hts hin6 hown hK hP 0 rfl rfl 1 (by decide) (hts (.fieldLink RX6 7 "FeedDeskModel" "s" "[I") (List.mem_of_getElem? (i := 2) rfl)) (fun _ h9 => h9) rfl dX6_setGroup_61 ?_
            refine lv_iload hx hb dX6_setGroup_64 (lv_at hl 0 rfl) ?_
            refine va_iald (f := Rn25 0) hx hb hK hP 1 0 rfl rfl (by rw [ep1]; exact vp_of_B (ix_12 ip1 hip1)) dX6_setGroup_66 ?_
            refine lv_istore (lv' := [(5, .int (Rn25 0 (76 + p1).toNatClampNeg)), (4, .int (76 + p1)), (0, .ref (a 0)), (1, .int p1), (2, .int p2), (3, .int p3)]) hx hb dX6_setGroup_67 hl (by decide) rfl (fun ls hl => ?_)
            refine lv_aload_n hx hb dX6_setGroup_69 rfl (lv_at hl 2 rfl) ?_
            refine va_get (D := (dC, dI)) (ci := 6) (v := .ref (a 1)) (C := RX6) (T := TX6) (N := 15) hx hb hts hin6 hown hK hP 0 rfl rfl 1 (by decide) (hts (.fieldLink RX6 7 "FeedDeskModel" "s" "[I") (List.mem_of_getElem? (i := 2) rfl)) (fun _ h9 => h9) rfl dX6_setGroup_70 ?_
            refine lv_iload hx hb dX6_setGroup_73 (lv_at hl 1 rfl) ?_
            refine lv_iload_n hx hb dX6_setGroup_75 rfl (lv_at hl 5 rfl) ?_
            refine va_iast (f := Rn25 0) hx hb hK hP hD hS 1 0 rfl rfl (by rw [ep1]; exact vp_of_B (ix_12 ip1 hip1)) dX6_setGroup_76 (fun H30 locs hP hD hS => ?_)
            have hP : va_P (dC, dI) vwCl (cMd a cI (sU Rn25 0 (76 + p1).toNatClampNeg p3)) H30 := hP
            have hD : va_D (va_A (cMd a cI R) s.heap.size) (cMd a cI (sU Rn25 0 (76 + p1).toNatClampNeg p3)) := hD
            obtain ⟨Rn31, eRn31⟩ : ∃ z : SR, z = sU Rn25 0 (76 + p1).toNatClampNeg p3 := ⟨_, rfl⟩
            rw [sLet_eq, ← eRn31] at hR
            rw [← eRn31] at hP hD
            have hI33 : RA Rn31 := (by rw [eRn31]; exact ra_s hI27 (by rw [ep1]; exact ok_38 ip1 hip1))
            have hs34 : RS Rn31 := (by rw [eRn31]; exact rs_s hs28 (by rw [ep1]; exact ok_39 ip1 hip1))
            refine lv_aload_n hx hb dX6_setGroup_77 rfl (lv_at hl 2 rfl) ?_
            refine va_get (D := (dC, dI)) (ci := 6) (v := .ref (a 1)) (C := RX6) (T := TX6) (N := 15) hx hb hts hin6 hown hK hP 0 rfl rfl 1 (by decide) (hts (.fieldLink RX6 7 "FeedDeskModel" "s" "[I") (List.mem_of_getElem? (i := 2) rfl)) (fun _ h9 => h9) rfl dX6_setGroup_78 ?_
            refine lv_sipush (v := 180) hx hb dX6_setGroup_81 (by decide) ?_
            refine lv_dup2_11 hx hb dX6_setGroup_84 rfl rfl ?_
            refine va_iald (f := Rn31 0) hx hb hK hP 1 0 rfl rfl (vp_of_B (by decide +kernel : vp_okB (180) 289 = true)) dX6_setGroup_85 ?_
            refine lv_eqi (y := Rn31 0 180) rfl ?_
            refine lv_aload_n hx hb dX6_setGroup_86 rfl (lv_at hl 2 rfl) ?_
            refine va_get (D := (dC, dI)) (ci := 6) (v := .ref (a 1)) (C := RX6) (T := TX6) (N := 15) hx hb hts hin6 hown hK hP 0 rfl rfl 1 (by decide) (hts (.fieldLink RX6 7 "FeedDeskModel" "s" "[I") (List.mem_of_getElem? (i := 2) rfl)) (fun _ h9 => h9) rfl dX6_setGroup_87 ?_
            refine lv_sipush (v := 144) hx hb dX6_setGroup_90 (by decide) ?_
            refine va_iald (f := Rn31 0) hx hb hK hP 1 0 rfl rfl (vp_of_B (by decide +kernel : vp_okB (144) 289 = true)) dX6_setGroup_93 ?_
            refine lv_eqi (y := Rn31 0 144) rfl ?_
            refine lv_if_lt (tgt := 107) hx hb dX6_setGroup_94 (by decide) (fun c35 => ?_) (fun c35 => ?_)
            · rw [if_pos c35] at hR
              refine lv_iconst (v := 0) hx hb dX6_setGroup_107 (by decide) ?_
              refine lv_ior hx hb dX6_setGroup_108 ?_
              refine va_iast (f := Rn31 0) hx hb hK hP hD hS 1 0 rfl rfl (vp_of_B (by decide +kernel : vp_okB (180) 289 = true)) dX6_setGroup_109 (fun H36 locs hP hD hS => ?_)
              have hP : va_P (dC, dI) vwCl (cMd a cI (sU Rn31 0 180 ((Rn31 0 180) ||| 0))) H36 := hP
              have hD : va_D (va_A (cMd a cI R) s.heap.size) (cMd a cI (sU Rn31 0 180 ((Rn31 0 180) ||| 0))) := hD
              obtain ⟨Rn37, eRn37⟩ : ∃ z : SR, z = sU Rn31 0 180 ((Rn31 0 180) ||| 0) := ⟨_, rfl⟩
              rw [sLet_eq, ← eRn37] at hR
              rw [← eRn37] at hP hD
              have hI39 : RA Rn37 := (by rw [eRn37]; exact ra_s hI33 (by decide +kernel))
              have hs40 : RS Rn37 := (by rw [eRn37]; exact rs_s hs34 (by decide +kernel))
              refine lv_iload hx hb dX6_setGroup_110 (lv_at hl 0 rfl) ?_
              exact W.iret (v := Rn25 0 (76 + p1).toNatClampNeg) hx hb hr (fun t ht hWw => ⟨⟨Rn25 0 (76 + p1).toNatClampNeg, Rn37, rfl, ⟨hR.symm.trans eR, hI39, hs40⟩, by rw [ht]; exact hP, hD⟩, hS.F ht⟩) hS.2.2 dX6_setGroup_112
            · rw [if_neg c35] at hR
              refine lv_iload_n hx hb dX6_setGroup_97 rfl (lv_at hl 4 rfl) ?_
              refine lv_if_ne (tgt := 107) hx hb dX6_setGroup_98 (by decide) (fun c41 => ?_) (fun c41 => ?_)
              · rw [if_neg c41] at hR
                refine lv_iconst (v := 0) hx hb dX6_setGroup_107 (by decide) ?_
                refine lv_ior hx hb dX6_setGroup_108 ?_
                refine va_iast (f := Rn31 0) hx hb hK hP hD hS 1 0 rfl rfl (vp_of_B (by decide +kernel : vp_okB (180) 289 = true)) dX6_setGroup_109 (fun H42 locs hP hD hS => ?_)
                have hP : va_P (dC, dI) vwCl (cMd a cI (sU Rn31 0 180 ((Rn31 0 180) ||| 0))) H42 := hP
                have hD : va_D (va_A (cMd a cI R) s.heap.size) (cMd a cI (sU Rn31 0 180 ((Rn31 0 180) ||| 0))) := hD
                obtain ⟨Rn43, eRn43⟩ : ∃ z : SR, z = sU Rn31 0 180 ((Rn31 0 180) ||| 0) := ⟨_, rfl⟩
                rw [sLet_eq, ← eRn43] at hR
                rw [← eRn43] at hP hD
                have hI45 : RA Rn43 := (by rw [eRn43]; exact ra_s hI33 (by decide +kernel))
                have hs46 : RS Rn43 := (by rw [eRn43]; exact rs_s hs34 (by decide +kernel))
                refine lv_iload hx hb dX6_setGroup_110 (lv_at hl 0 rfl) ?_
                exact W.iret (v := Rn25 0 (76 + p1).toNatClampNeg) hx hb hr (fun t ht hWw => ⟨⟨Rn25 0 (76 + p1).toNatClampNeg, Rn43, rfl, ⟨hR.symm.trans eR, hI45, hs46⟩, by rw [ht]; exact hP, hD⟩, hS.F ht⟩) hS.2.2 dX6_setGroup_112
              · rw [if_pos c41] at hR
                refine lv_iconst (v := 1) hx hb dX6_setGroup_101 (by decide) ?_
                refine lv_iload_n hx hb dX6_setGroup_102 rfl (lv_at hl 3 rfl) ?_
                refine lv_ishl hx hb dX6_setGroup_103 ?_
                refine lv_goto (tgt := 108) hx hb dX6_setGroup_104 (by decide) ?_
                refine lv_ior hx hb dX6_setGroup_108 ?_
                refine va_iast (f := Rn31 0) hx hb hK hP hD hS 1 0 rfl rfl (vp_of_B (by decide +kernel : vp_okB (180) 289 = true)) dX6_setGroup_109 (fun H47 locs hP hD hS => ?_)
                have hP : va_P (dC, dI) vwCl (cMd a cI (sU Rn31 0 180 ((Rn31 0 180) ||| (1 <<< (p1 &&& 31))))) H47 := hP
                have hD : va_D (va_A (cMd a cI R) s.heap.size) (cMd a cI (sU Rn31 0 180 ((Rn31 0 180) ||| (1 <<< (p1 &&& 31))))) := hD
                obtain ⟨Rn48, eRn48⟩ : ∃ z : SR, z = sU Rn31 0 180 ((Rn31 0 180) ||| (1 <<< (p1 &&& 31))) := ⟨_, rfl⟩
                rw [sLet_eq, ← eRn48] at hR
                rw [← eRn48] at hP hD
                have hI50 : RA Rn48 := (by rw [eRn48]; exact ra_s hI33 (by decide +kernel))
                have hs51 : RS Rn48 := (by rw [eRn48]; exact rs_s hs34 (by decide +kernel))
                refine lv_iload hx hb dX6_setGroup_110 (lv_at hl 0 rfl) ?_
                exact W.iret (v := Rn25 0 (76 + p1).toNatClampNeg) hx hb hr (fun t ht hWw => ⟨⟨Rn25 0 (76 + p1).toNatClampNeg, Rn48, rfl, ⟨hR.symm.trans eR, hI50, hs51⟩, by rw [ht]; exact hP, hD⟩, hS.F ht⟩) hS.2.2 dX6_setGroup_112
          · rw [if_pos c29] at hR
            refine lv_bipush (v := 72) hx hb dX6_setGroup_49 (by decide) ?_
            refine lv_goto (tgt := 56) hx hb dX6_setGroup_51 (by decide) ?_
            refine lv_iload_n hx hb dX6_setGroup_56 rfl (lv_at hl 1 rfl) ?_
            refine lv_iadd hx hb dX6_setGroup_57 ?_
            refine lv_istore (lv' := [(4, .int (72 + p1)), (0, .ref (a 0)), (1, .int p1), (2, .int p2), (3, .int p3)]) hx hb dX6_setGroup_58 hl (by decide) rfl (fun ls hl => ?_)
            refine lv_aload_n hx hb dX6_setGroup_60 rfl (lv_at hl 1 rfl) ?_
            refine va_get (D := (dC, dI)) (ci := 6) (v := .ref (a 1)) (C := RX6) (T := TX6) (N := 15) hx hb hts hin6 hown hK hP 0 rfl rfl 1 (by decide) (hts (.fieldLink RX6 7 "FeedDeskModel" "s" "[I") (List.mem_of_getElem? (i := 2) rfl)) (fun _ h9 => h9) rfl dX6_setGroup_61 ?_
            refine lv_iload hx hb dX6_setGroup_64 (lv_at hl 0 rfl) ?_
            refine va_iald (f := Rn25 0) hx hb hK hP 1 0 rfl rfl (by rw [ep1]; exact vp_of_B (ix_13 ip1 hip1)) dX6_setGroup_66 ?_
            refine lv_istore (lv' := [(5, .int (Rn25 0 (72 + p1).toNatClampNeg)), (4, .int (72 + p1)), (0, .ref (a 0)), (1, .int p1), (2, .int p2), (3, .int p3)]) hx hb dX6_setGroup_67 hl (by decide) rfl (fun ls hl => ?_)
            refine lv_aload_n hx hb dX6_setGroup_69 rfl (lv_at hl 2 rfl) ?_
            refine va_get (D := (dC, dI)) (ci := 6) (v := .ref (a 1)) (C := RX6) (T := TX6) (N := 15) hx hb hts hin6 hown hK hP 0 rfl rfl 1 (by decide) (hts (.fieldLink RX6 7 "FeedDeskModel" "s" "[I") (List.mem_of_getElem? (i := 2) rfl)) (fun _ h9 => h9) rfl dX6_setGroup_70 ?_
            refine lv_iload hx hb dX6_setGroup_73 (lv_at hl 1 rfl) ?_
            refine lv_iload_n hx hb dX6_setGroup_75 rfl (lv_at hl 5 rfl) ?_
            refine va_iast (f := Rn25 0) hx hb hK hP hD hS 1 0 rfl rfl (by rw [ep1]; exact vp_of_B (ix_13 ip1 hip1)) dX6_setGroup_76 (fun H52 locs hP hD hS => ?_)
            have hP : va_P (dC, dI) vwCl (cMd a cI (sU Rn25 0 (72 + p1).toNatClampNeg p3)) H52 := hP
            have hD : va_D (va_A (cMd a cI R) s.heap.size) (cMd a cI (sU Rn25 0 (72 + p1).toNatClampNeg p3)) := hD
            obtain ⟨Rn53, eRn53⟩ : ∃ z : SR, z = sU Rn25 0 (72 + p1).toNatClampNeg p3 := ⟨_, rfl⟩
            rw [sLet_eq, ← eRn53] at hR
            rw [← eRn53] at hP hD
            have hI55 : RA Rn53 := (by rw [eRn53]; exact ra_s hI27 (by rw [ep1]; exact ok_40 ip1 hip1))
            have hs56 : RS Rn53 := (by rw [eRn53]; exact rs_s hs28 (by rw [ep1]; exact ok_41 ip1 hip1))
            refine lv_aload_n hx hb dX6_setGroup_77 rfl (lv_at hl 2 rfl) ?_
            refine va_get (D := (dC, dI)) (ci := 6) (v := .ref (a 1)) (C := RX6) (T := TX6) (N := 15) hx hb hts hin6 hown hK hP 0 rfl rfl 1 (by decide) (hts (.fieldLink RX6 7 "FeedDeskModel" "s" "[I") (List.mem_of_getElem? (i := 2) rfl)) (fun _ h9 => h9) rfl dX6_setGroup_78 ?_
            refine lv_sipush (v := 180) hx hb dX6_setGroup_81 (by decide) ?_
            refine lv_dup2_11 hx hb dX6_setGroup_84 rfl rfl ?_
            refine va_iald (f := Rn53 0) hx hb hK hP 1 0 rfl rfl (vp_of_B (by decide +kernel : vp_okB (180) 289 = true)) dX6_setGroup_85 ?_
            refine lv_eqi (y := Rn53 0 180) rfl ?_
            refine lv_aload_n hx hb dX6_setGroup_86 rfl (lv_at hl 2 rfl) ?_
            refine va_get (D := (dC, dI)) (ci := 6) (v := .ref (a 1)) (C := RX6) (T := TX6) (N := 15) hx hb hts hin6 hown hK hP 0 rfl rfl 1 (by decide) (hts (.fieldLink RX6 7 "FeedDeskModel" "s" "[I") (List.mem_of_getElem? (i := 2) rfl)) (fun _ h9 => h9) rfl dX6_setGroup_87 ?_
            refine lv_sipush (v := 144) hx hb dX6_setGroup_90 (by decide) ?_
            refine va_iald (f := Rn53 0) hx hb hK hP 1 0 rfl rfl (vp_of_B (by decide +kernel : vp_okB (144) 289 = true)) dX6_setGroup_93 ?_
            refine lv_eqi (y := Rn53 0 144) rfl ?_
            refine lv_if_lt (tgt := 107) hx hb dX6_setGroup_94 (by decide) (fun c57 => ?_) (fun c57 => ?_)
            · rw [if_pos c57] at hR
              refine lv_iconst (v := 0) hx hb dX6_setGroup_107 (by decide) ?_
              refine lv_ior hx hb dX6_setGroup_108 ?_
              refine va_iast (f := Rn53 0) hx hb hK hP hD hS 1 0 rfl rfl (vp_of_B (by decide +kernel : vp_okB (180) 289 = true)) dX6_setGroup_109 (fun H58 locs hP hD hS => ?_)
              have hP : va_P (dC, dI) vwCl (cMd a cI (sU Rn53 0 180 ((Rn53 0 180) ||| 0))) H58 := hP
              have hD : va_D (va_A (cMd a cI R) s.heap.size) (cMd a cI (sU Rn53 0 180 ((Rn53 0 180) ||| 0))) := hD
              obtain ⟨Rn59, eRn59⟩ : ∃ z : SR, z = sU Rn53 0 180 ((Rn53 0 180) ||| 0) := ⟨_, rfl⟩
              rw [sLet_eq, ← eRn59] at hR
              rw [← eRn59] at hP hD
              have hI61 : RA Rn59 := (by rw [eRn59]; exact ra_s hI55 (by decide +kernel))
              have hs62 : RS Rn59 := (by rw [eRn59]; exact rs_s hs56 (by decide +kernel))
              refine lv_iload hx hb dX6_setGroup_110 (lv_at hl 0 rfl) ?_
              exact W.iret (v := Rn25 0 (72 + p1).toNatClampNeg) hx hb hr (fun t ht hWw => ⟨⟨Rn25 0 (72 + p1).toNatClampNeg, Rn59, rfl, ⟨hR.symm.trans eR, hI61, hs62⟩, by rw [ht]; exact hP, hD⟩, hS.F ht⟩) hS.2.2 dX6_setGroup_112
            · rw [if_neg c57] at hR
              refine lv_iload_n hx hb dX6_setGroup_97 rfl (lv_at hl 4 rfl) ?_
              refine lv_if_ne (tgt := 107) hx hb dX6_setGroup_98 (by decide) (fun c63 => ?_) (fun c63 => ?_)
              · rw [if_neg c63] at hR
                refine lv_iconst (v := 0) hx hb dX6_setGroup_107 (by decide) ?_
                refine lv_ior hx hb dX6_setGroup_108 ?_
                refine va_iast (f := Rn53 0) hx hb hK hP hD hS 1 0 rfl rfl (vp_of_B (by decide +kernel : vp_okB (180) 289 = true)) dX6_setGroup_109 (fun H64 locs hP hD hS => ?_)
                have hP : va_P (dC, dI) vwCl (cMd a cI (sU Rn53 0 180 ((Rn53 0 180) ||| 0))) H64 := hP
                have hD : va_D (va_A (cMd a cI R) s.heap.size) (cMd a cI (sU Rn53 0 180 ((Rn53 0 180) ||| 0))) := hD
                obtain ⟨Rn65, eRn65⟩ : ∃ z : SR, z = sU Rn53 0 180 ((Rn53 0 180) ||| 0) := ⟨_, rfl⟩
                rw [sLet_eq, ← eRn65] at hR
                rw [← eRn65] at hP hD
                have hI67 : RA Rn65 := (by rw [eRn65]; exact ra_s hI55 (by decide +kernel))
                have hs68 : RS Rn65 := (by rw [eRn65]; exact rs_s hs56 (by decide +kernel))
                refine lv_iload hx hb dX6_setGroup_110 (lv_at hl 0 rfl) ?_
                exact W.iret (v := Rn25 0 (72 + p1).toNatClampNeg) hx hb hr (fun t ht hWw => ⟨⟨Rn25 0 (72 + p1).toNatClampNeg, Rn65, rfl, ⟨hR.symm.trans eR, hI67, hs68⟩, by rw [ht]; exact hP, hD⟩, hS.F ht⟩) hS.2.2 dX6_setGroup_112
              · rw [if_pos c63] at hR
                refine lv_iconst (v := 1) hx hb dX6_setGroup_101 (by decide) ?_
                refine lv_iload_n hx hb dX6_setGroup_102 rfl (lv_at hl 3 rfl) ?_
                refine lv_ishl hx hb dX6_setGroup_103 ?_
                refine lv_goto (tgt := 108) hx hb dX6_setGroup_104 (by decide) ?_
                refine lv_ior hx hb dX6_setGroup_108 ?_
                refine va_iast (f := Rn53 0) hx hb hK hP hD hS 1 0 rfl rfl (vp_of_B (by decide +kernel : vp_okB (180) 289 = true)) dX6_setGroup_109 (fun H69 locs hP hD hS => ?_)
                have hP : va_P (dC, dI) vwCl (cMd a cI (sU Rn53 0 180 ((Rn53 0 180) ||| (1 <<< (p1 &&& 31))))) H69 := hP
                have hD : va_D (va_A (cMd a cI R) s.heap.size) (cMd a cI (sU Rn53 0 180 ((Rn53 0 180) ||| (1 <<< (p1 &&& 31))))) := hD
                obtain ⟨Rn70, eRn70⟩ : ∃ z : SR, z = sU Rn53 0 180 ((Rn53 0 180) ||| (1 <<< (p1 &&& 31))) := ⟨_, rfl⟩
                rw [sLet_eq, ← eRn70] at hR
                rw [← eRn70] at hP hD
                have hI72 : RA Rn70 := (by rw [eRn70]; exact ra_s hI55 (by decide +kernel))
                have hs73 : RS Rn70 := (by rw [eRn70]; exact rs_s hs56 (by decide +kernel))
                refine lv_iload hx hb dX6_setGroup_110 (lv_at hl 0 rfl) ?_
                exact W.iret (v := Rn25 0 (72 + p1).toNatClampNeg) hx hb hr (fun t ht hWw => ⟨⟨Rn25 0 (72 + p1).toNatClampNeg, Rn70, rfl, ⟨hR.symm.trans eR, hI72, hs73⟩, by rw [ht]; exact hP, hD⟩, hS.F ht⟩) hS.2.2 dX6_setGroup_112
        · rw [if_pos c18] at hR
          refine lv_iconst (v := (-1)) hx hb dX6_setGroup_39 (by decide) ?_
          exact W.iret (v := (-1)) hx hb hr (fun t ht hWw => ⟨⟨(-1), Rn2, rfl, ⟨hR.symm.trans eR, hI4, hs5⟩, by rw [ht]; exact hP, hD⟩, hS.F ht⟩) hS.2.2 dX6_setGroup_40
      · rw [if_pos c14] at hR
        refine lv_bipush (v := 100) hx hb dX6_setGroup_27 (by decide) ?_
        refine lv_goto (tgt := 33) hx hb dX6_setGroup_29 (by decide) ?_
        have hFc : ∀ q : Nat, va_A [] H11.size q → (va_A (cMd a cI R) s.heap.size) q := roF hS hA
        refine va_calli (va_runS (As := [.int p3, .int 0, .int 100]) (rest := []) ⟨hx, hb, hml, hown, hts⟩ (c_X6_in l dC dI cI cC cS H11.size p3 0 100) (va_cwS 3 hts gX6_setGroup_X6_in rfl rfl rfl (by decide +kernel) ⟨Nat.le_of_ble_eq_true rfl, Nat.le_of_ble_eq_true rfl⟩) (pS hK (va_P_nil) (va_D_nil) hN) rfl rfl hl.1 rfl (lv_room (Nat.le_of_ble_eq_true rfl)) dX6_setGroup_33 ⟨Nat.le_of_ble_eq_true rfl, Nat.le_of_ble_eq_true rfl⟩) hS (fun q _ h => hFc q h) hFc (fun r_74 u_74 t_74 H75 locs ht hvm hw hB hz1 hk1 hS => ?_)
        obtain ⟨hw, hre76⟩ := hw
        subst hw
        have hP := ro_keep hP hk1
        refine lv_if_ne (tgt := 41) hx hb dX6_setGroup_36 (by decide) (fun c77 => ?_) (fun c77 => ?_)
        · rw [if_neg c77] at hR
          refine lv_aload_n hx hb dX6_setGroup_41 rfl (lv_at hl 0 rfl) ?_
          have hPc : va_P (dC, dI) vwCl (cMd a cI Rn2) H75 := hP.sub [0, 1, 2, 3, 4, 5, 6] rfl
          have hDc : va_D (va_A (cMd a cI R) s.heap.size) (cMd a cI Rn2) := hD.sub [0, 1, 2, 3, 4, 5, 6] (by decide) rfl
          have hFc : ∀ q : Nat, va_A (cMd a cI Rn2) H75.size q → (va_A (cMd a cI R) s.heap.size) q := va_free hD hS hA [0, 1, 2, 3, 4, 5, 6] rfl
          refine va_callv (va_runV (As := []) (rest := []) ⟨hx, hb, hml, hown, hts⟩ (c_X6_act l dC dI cI cC cS a Rn2 H75.size ohv3) (cwV 0 hts gX6_setGroup_X6_act rfl rfl rfl (by decide +kernel) ⟨Nat.le_of_ble_eq_true rfl, Nat.le_of_ble_eq_true rfl⟩) (pV (q0 := 0) hK hPc hDc hN rfl rfl) rfl rfl hl.1 rfl (lv_room (Nat.le_of_ble_eq_true rfl)) dX6_setGroup_42 ⟨Nat.le_of_ble_eq_true rfl, Nat.le_of_ble_eq_true rfl⟩) hS (fun q _ h => hFc q h) hFc (fun u_78 t_78 H79 locs ht hvm hw hB hz1 hk1 hS => ?_)
          obtain ⟨hw, hens80, hens81, hens82, hens83⟩ := hw
          obtain ⟨hP1, hD1⟩ := hB
          rw [ht] at hP1
          subst hw
          obtain ⟨hP, hD⟩ := va_join (wc := cMd a cI Rn2) (wr := []) (w1 := cMd a cI (f_X6_act Rn2)) hP hD [0, 1, 2, 3, 4, 5, 6] [] rfl rfl (by decide) (by decide) hk1 hFc hP1 hD1
          have hP : va_P (dC, dI) vwCl (cMd a cI (f_X6_act Rn2)) H79 := hP.sub [0, 1, 2, 3, 4, 5, 6] rfl
          have hD : va_D (va_A (cMd a cI R) s.heap.size) (cMd a cI (f_X6_act Rn2)) := hD.sub [0, 1, 2, 3, 4, 5, 6] (by decide) rfl
          obtain ⟨Rn84, eRn84⟩ : ∃ z : SR, z = (f_X6_act Rn2) := ⟨_, rfl⟩
          rw [sLet_eq, ← eRn84] at hR
          rw [← eRn84] at hP hD
          have hI86 : RA Rn84 := (by rw [eRn84]; exact ra_eq hI4 hens80)
          have hs87 : RS Rn84 := (by rw [eRn84]; exact rs_eq0 hs5 hens80)
          refine lv_iload_n hx hb dX6_setGroup_45 rfl (lv_at hl 2 rfl) ?_
          refine lv_if_ne (tgt := 54) hx hb dX6_setGroup_46 (by decide) (fun c88 => ?_) (fun c88 => ?_)
          · rw [if_neg c88] at hR
            refine lv_bipush (v := 76) hx hb dX6_setGroup_54 (by decide) ?_
            refine lv_iload_n hx hb dX6_setGroup_56 rfl (lv_at hl 1 rfl) ?_
            refine lv_iadd hx hb dX6_setGroup_57 ?_
            refine lv_istore (lv' := [(4, .int (76 + p1)), (0, .ref (a 0)), (1, .int p1), (2, .int p2), (3, .int p3)]) hx hb dX6_setGroup_58 hl (by decide) rfl (fun ls hl => ?_)
            refine lv_aload_n hx hb dX6_setGroup_60 rfl (lv_at hl 1 rfl) ?_
            refine va_get (D := (dC, dI)) (ci := 6) (v := .ref (a 1)) (C := RX6) (T := TX6) (N := 15) hx hb hts hin6 hown hK hP 0 rfl rfl 1 (by decide) (hts (.fieldLink RX6 7 "FeedDeskModel" "s" "[I") (List.mem_of_getElem? (i := 2) rfl)) (fun _ h9 => h9) rfl dX6_setGroup_61 ?_
            refine lv_iload hx hb dX6_setGroup_64 (lv_at hl 0 rfl) ?_
            refine va_iald (f := Rn84 0) hx hb hK hP 1 0 rfl rfl (by rw [ep1]; exact vp_of_B (ix_12 ip1 hip1)) dX6_setGroup_66 ?_
            refine lv_istore (lv' := [(5, .int (Rn84 0 (76 + p1).toNatClampNeg)), (4, .int (76 + p1)), (0, .ref (a 0)), (1, .int p1), (2, .int p2), (3, .int p3)]) hx hb dX6_setGroup_67 hl (by decide) rfl (fun ls hl => ?_)
            refine lv_aload_n hx hb dX6_setGroup_69 rfl (lv_at hl 2 rfl) ?_
            refine va_get (D := (dC, dI)) (ci := 6) (v := .ref (a 1)) (C := RX6) (T := TX6) (N := 15) hx hb hts hin6 hown hK hP 0 rfl rfl 1 (by decide) (hts (.fieldLink RX6 7 "FeedDeskModel" "s" "[I") (List.mem_of_getElem? (i := 2) rfl)) (fun _ h9 => h9) rfl dX6_setGroup_70 ?_
            refine lv_iload hx hb dX6_setGroup_73 (lv_at hl 1 rfl) ?_
            refine lv_iload_n hx hb dX6_setGroup_75 rfl (lv_at hl 5 rfl) ?_
            refine va_iast (f := Rn84 0) hx hb hK hP hD hS 1 0 rfl rfl (by rw [ep1]; exact vp_of_B (ix_12 ip1 hip1)) dX6_setGroup_76 (fun H89 locs hP hD hS => ?_)
            have hP : va_P (dC, dI) vwCl (cMd a cI (sU Rn84 0 (76 + p1).toNatClampNeg p3)) H89 := hP
            have hD : va_D (va_A (cMd a cI R) s.heap.size) (cMd a cI (sU Rn84 0 (76 + p1).toNatClampNeg p3)) := hD
            obtain ⟨Rn90, eRn90⟩ : ∃ z : SR, z = sU Rn84 0 (76 + p1).toNatClampNeg p3 := ⟨_, rfl⟩
            rw [sLet_eq, ← eRn90] at hR
            rw [← eRn90] at hP hD
            have hI92 : RA Rn90 := (by rw [eRn90]; exact ra_s hI86 (by rw [ep1]; exact ok_38 ip1 hip1))
            have hs93 : RS Rn90 := (by rw [eRn90]; exact rs_s hs87 (by rw [ep1]; exact ok_39 ip1 hip1))
            refine lv_aload_n hx hb dX6_setGroup_77 rfl (lv_at hl 2 rfl) ?_
            refine va_get (D := (dC, dI)) (ci := 6) (v := .ref (a 1)) (C := RX6) (T := TX6) (N := 15) hx hb hts hin6 hown hK hP 0 rfl rfl 1 (by decide) (hts (.fieldLink RX6 7 "FeedDeskModel" "s" "[I") (List.mem_of_getElem? (i := 2) rfl)) (fun _ h9 => h9) rfl dX6_setGroup_78 ?_
            refine lv_sipush (v := 180) hx hb dX6_setGroup_81 (by decide) ?_
            refine lv_dup2_11 hx hb dX6_setGroup_84 rfl rfl ?_
            refine va_iald (f := Rn90 0) hx hb hK hP 1 0 rfl rfl (vp_of_B (by decide +kernel : vp_okB (180) 289 = true)) dX6_setGroup_85 ?_
            refine lv_eqi (y := Rn90 0 180) rfl ?_
            refine lv_aload_n hx hb dX6_setGroup_86 rfl (lv_at hl 2 rfl) ?_
            refine va_get (D := (dC, dI)) (ci := 6) (v := .ref (a 1)) (C := RX6) (T := TX6) (N := 15) hx hb hts hin6 hown hK hP 0 rfl rfl 1 (by decide) (hts (.fieldLink RX6 7 "FeedDeskModel" "s" "[I") (List.mem_of_getElem? (i := 2) rfl)) (fun _ h9 => h9) rfl dX6_setGroup_87 ?_
            refine lv_sipush (v := 144) hx hb dX6_setGroup_90 (by decide) ?_
            refine va_iald (f := Rn90 0) hx hb hK hP 1 0 rfl rfl (vp_of_B (by decide +kernel : vp_okB (144) 289 = true)) dX6_setGroup_93 ?_
            refine lv_eqi (y := Rn90 0 144) rfl ?_
            refine lv_if_lt (tgt := 107) hx hb dX6_setGroup_94 (by decide) (fun c94 => ?_) (fun c94 => ?_)
            · rw [if_pos c94] at hR
              refine lv_iconst (v := 0) hx hb dX6_setGroup_107 (by decide) ?_
              refine lv_ior hx hb dX6_setGroup_108 ?_
              refine va_iast (f := Rn90 0) hx hb hK hP hD hS 1 0 rfl rfl (vp_of_B (by decide +kernel : vp_okB (180) 289 = true)) dX6_setGroup_109 (fun H95 locs hP hD hS => ?_)
              have hP : va_P (dC, dI) vwCl (cMd a cI (sU Rn90 0 180 ((Rn90 0 180) ||| 0))) H95 := hP
              have hD : va_D (va_A (cMd a cI R) s.heap.size) (cMd a cI (sU Rn90 0 180 ((Rn90 0 180) ||| 0))) := hD
              obtain ⟨Rn96, eRn96⟩ : ∃ z : SR, z = sU Rn90 0 180 ((Rn90 0 180) ||| 0) := ⟨_, rfl⟩
              rw [sLet_eq, ← eRn96] at hR
              rw [← eRn96] at hP hD
              have hI98 : RA Rn96 := (by rw [eRn96]; exact ra_s hI92 (by decide +kernel))
              have hs99 : RS Rn96 := (by rw [eRn96]; exact rs_s hs93 (by decide +kernel))
              refine lv_iload hx hb dX6_setGroup_110 (lv_at hl 0 rfl) ?_
              exact W.iret (v := Rn84 0 (76 + p1).toNatClampNeg) hx hb hr (fun t ht hWw => ⟨⟨Rn84 0 (76 + p1).toNatClampNeg, Rn96, rfl, ⟨hR.symm.trans eR, hI98, hs99⟩, by rw [ht]; exact hP, hD⟩, hS.F ht⟩) hS.2.2 dX6_setGroup_112
            · rw [if_neg c94] at hR
              refine lv_iload_n hx hb dX6_setGroup_97 rfl (lv_at hl 4 rfl) ?_
              refine lv_if_ne (tgt := 107) hx hb dX6_setGroup_98 (by decide) (fun c100 => ?_) (fun c100 => ?_)
              · rw [if_neg c100] at hR
                refine lv_iconst (v := 0) hx hb dX6_setGroup_107 (by decide) ?_
                refine lv_ior hx hb dX6_setGroup_108 ?_
                refine va_iast (f := Rn90 0) hx hb hK hP hD hS 1 0 rfl rfl (vp_of_B (by decide +kernel : vp_okB (180) 289 = true)) dX6_setGroup_109 (fun H101 locs hP hD hS => ?_)
                have hP : va_P (dC, dI) vwCl (cMd a cI (sU Rn90 0 180 ((Rn90 0 180) ||| 0))) H101 := hP
                have hD : va_D (va_A (cMd a cI R) s.heap.size) (cMd a cI (sU Rn90 0 180 ((Rn90 0 180) ||| 0))) := hD
                obtain ⟨Rn102, eRn102⟩ : ∃ z : SR, z = sU Rn90 0 180 ((Rn90 0 180) ||| 0) := ⟨_, rfl⟩
                rw [sLet_eq, ← eRn102] at hR
                rw [← eRn102] at hP hD
                have hI104 : RA Rn102 := (by rw [eRn102]; exact ra_s hI92 (by decide +kernel))
                have hs105 : RS Rn102 := (by rw [eRn102]; exact rs_s hs93 (by decide +kernel))
                refine lv_iload hx hb dX6_setGroup_110 (lv_at hl 0 rfl) ?_
                exact W.iret (v := Rn84 0 (76 + p1).toNatClampNeg) hx hb hr (fun t ht hWw => ⟨⟨Rn84 0 (76 + p1).toNatClampNeg, Rn102, rfl, ⟨hR.symm.trans eR, hI104, hs105⟩, by rw [ht]; exact hP, hD⟩, hS.F ht⟩) hS.2.2 dX6_setGroup_112
              · rw [if_pos c100] at hR
                refine lv_iconst (v := 1) hx hb dX6_setGroup_101 (by decide) ?_
                refine lv_iload_n hx hb dX6_setGroup_102 rfl (lv_at hl 3 rfl) ?_
                refine lv_ishl hx hb dX6_setGroup_103 ?_
                refine lv_goto (tgt := 108) hx hb dX6_setGroup_104 (by decide) ?_
                refine lv_ior hx hb dX6_setGroup_108 ?_
                refine va_iast (f := Rn90 0) hx hb hK hP hD hS 1 0 rfl rfl (vp_of_B (by decide +kernel : vp_okB (180) 289 = true)) dX6_setGroup_109 (fun H106 locs hP hD hS => ?_)
                have hP : va_P (dC, dI) vwCl (cMd a cI (sU Rn90 0 180 ((Rn90 0 180) ||| (1 <<< (p1 &&& 31))))) H106 := hP
                have hD : va_D (va_A (cMd a cI R) s.heap.size) (cMd a cI (sU Rn90 0 180 ((Rn90 0 180) ||| (1 <<< (p1 &&& 31))))) := hD
                obtain ⟨Rn107, eRn107⟩ : ∃ z : SR, z = sU Rn90 0 180 ((Rn90 0 180) ||| (1 <<< (p1 &&& 31))) := ⟨_, rfl⟩
                rw [sLet_eq, ← eRn107] at hR
                rw [← eRn107] at hP hD
                have hI109 : RA Rn107 := (by rw [eRn107]; exact ra_s hI92 (by decide +kernel))
                have hs110 : RS Rn107 := (by rw [eRn107]; exact rs_s hs93 (by decide +kernel))
                refine lv_iload hx hb dX6_setGroup_110 (lv_at hl 0 rfl) ?_
                exact W.iret (v := Rn84 0 (76 + p1).toNatClampNeg) hx hb hr (fun t ht hWw => ⟨⟨Rn84 0 (76 + p1).toNatClampNeg, Rn107, rfl, ⟨hR.symm.trans eR, hI109, hs110⟩, by rw [ht]; exact hP, hD⟩, hS.F ht⟩) hS.2.2 dX6_setGroup_112
          · rw [if_pos c88] at hR
            refine lv_bipush (v := 72) hx hb dX6_setGroup_49 (by decide) ?_
            refine lv_goto (tgt := 56) hx hb dX6_setGroup_51 (by decide) ?_
            refine lv_iload_n hx hb dX6_setGroup_56 rfl (lv_at hl 1 rfl) ?_
            refine lv_iadd hx hb dX6_setGroup_57 ?_
            refine lv_istore (lv' := [(4, .int (72 + p1)), (0, .ref (a 0)), (1, .int p1), (2, .int p2), (3, .int p3)]) hx hb dX6_setGroup_58 hl (by decide) rfl (fun ls hl => ?_)
            refine lv_aload_n hx hb dX6_setGroup_60 rfl (lv_at hl 1 rfl) ?_
            refine va_get (D := (dC, dI)) (ci := 6) (v := .ref (a 1)) (C := RX6) (T := TX6) (N := 15) hx hb hts hin6 hown hK hP 0 rfl rfl 1 (by decide) (hts (.fieldLink RX6 7 "FeedDeskModel" "s" "[I") (List.mem_of_getElem? (i := 2) rfl)) (fun _ h9 => h9) rfl dX6_setGroup_61 ?_
            refine lv_iload hx hb dX6_setGroup_64 (lv_at hl 0 rfl) ?_
            refine va_iald (f := Rn84 0) hx hb hK hP 1 0 rfl rfl (by rw [ep1]; exact vp_of_B (ix_13 ip1 hip1)) dX6_setGroup_66 ?_
            refine lv_istore (lv' := [(5, .int (Rn84 0 (72 + p1).toNatClampNeg)), (4, .int (72 + p1)), (0, .ref (a 0)), (1, .int p1), (2, .int p2), (3, .int p3)]) hx hb dX6_setGroup_67 hl (by decide) rfl (fun ls hl => ?_)
            refine lv_aload_n hx hb dX6_setGroup_69 rfl (lv_at hl 2 rfl) ?_
            refine va_get (D := (dC, dI)) (ci := 6) (v := .ref (a 1)) (C := RX6) (T := TX6) (N := 15) hx hb hts hin6 hown hK hP 0 rfl rfl 1 (by decide) (hts (.fieldLink RX6 7 "FeedDeskModel" "s" "[I") (List.mem_of_getElem? (i := 2) rfl)) (fun _ h9 => h9) rfl dX6_setGroup_70 ?_
            refine lv_iload hx hb dX6_setGroup_73 (lv_at hl 1 rfl) ?_
            refine lv_iload_n hx hb dX6_setGroup_75 rfl (lv_at hl 5 rfl) ?_
            refine va_iast (f := Rn84 0) hx hb hK hP hD hS 1 0 rfl rfl (by rw [ep1]; exact vp_of_B (ix_13 ip1 hip1)) dX6_setGroup_76 (fun H111 locs hP hD hS => ?_)
            have hP : va_P (dC, dI) vwCl (cMd a cI (sU Rn84 0 (72 + p1).toNatClampNeg p3)) H111 := hP
            have hD : va_D (va_A (cMd a cI R) s.heap.size) (cMd a cI (sU Rn84 0 (72 + p1).toNatClampNeg p3)) := hD
            obtain ⟨Rn112, eRn112⟩ : ∃ z : SR, z = sU Rn84 0 (72 + p1).toNatClampNeg p3 := ⟨_, rfl⟩
            rw [sLet_eq, ← eRn112] at hR
            rw [← eRn112] at hP hD
            have hI114 : RA Rn112 := (by rw [eRn112]; exact ra_s hI86 (by rw [ep1]; exact ok_40 ip1 hip1))
            have hs115 : RS Rn112 := (by rw [eRn112]; exact rs_s hs87 (by rw [ep1]; exact ok_41 ip1 hip1))
            refine lv_aload_n hx hb dX6_setGroup_77 rfl (lv_at hl 2 rfl) ?_
            refine va_get (D := (dC, dI)) (ci := 6) (v := .ref (a 1)) (C := RX6) (T := TX6) (N := 15) hx hb hts hin6 hown hK hP 0 rfl rfl 1 (by decide) (hts (.fieldLink RX6 7 "FeedDeskModel" "s" "[I") (List.mem_of_getElem? (i := 2) rfl)) (fun _ h9 => h9) rfl dX6_setGroup_78 ?_
            refine lv_sipush (v := 180) hx hb dX6_setGroup_81 (by decide) ?_
            refine lv_dup2_11 hx hb dX6_setGroup_84 rfl rfl ?_
            refine va_iald (f := Rn112 0) hx hb hK hP 1 0 rfl rfl (vp_of_B (by decide +kernel : vp_okB (180) 289 = true)) dX6_setGroup_85 ?_
            refine lv_eqi (y := Rn112 0 180) rfl ?_
            refine lv_aload_n hx hb dX6_setGroup_86 rfl (lv_at hl 2 rfl) ?_
            refine va_get (D := (dC, dI)) (ci := 6) (v := .ref (a 1)) (C := RX6) (T := TX6) (N := 15) hx hb hts hin6 hown hK hP 0 rfl rfl 1 (by decide) (hts (.fieldLink RX6 7 "FeedDeskModel" "s" "[I") (List.mem_of_getElem? (i := 2) rfl)) (fun _ h9 => h9) rfl dX6_setGroup_87 ?_
            refine lv_sipush (v := 144) hx hb dX6_setGroup_90 (by decide) ?_
            refine va_iald (f := Rn112 0) hx hb hK hP 1 0 rfl rfl (vp_of_B (by decide +kernel : vp_okB (144) 289 = true)) dX6_setGroup_93 ?_
            refine lv_eqi (y := Rn112 0 144) rfl ?_
            refine lv_if_lt (tgt := 107) hx hb dX6_setGroup_94 (by decide) (fun c116 => ?_) (fun c116 => ?_)
            · rw [if_pos c116] at hR
              refine lv_iconst (v := 0) hx hb dX6_setGroup_107 (by decide) ?_
              refine lv_ior hx hb dX6_setGroup_108 ?_
              refine va_iast (f := Rn112 0) hx hb hK hP hD hS 1 0 rfl rfl (vp_of_B (by decide +kernel : vp_okB (180) 289 = true)) dX6_setGroup_109 (fun H117 locs hP hD hS => ?_)
              have hP : va_P (dC, dI) vwCl (cMd a cI (sU Rn112 0 180 ((Rn112 0 180) ||| 0))) H117 := hP
              have hD : va_D (va_A (cMd a cI R) s.heap.size) (cMd a cI (sU Rn112 0 180 ((Rn112 0 180) ||| 0))) := hD
              obtain ⟨Rn118, eRn118⟩ : ∃ z : SR, z = sU Rn112 0 180 ((Rn112 0 180) ||| 0) := ⟨_, rfl⟩
              rw [sLet_eq, ← eRn118] at hR
              rw [← eRn118] at hP hD
              have hI120 : RA Rn118 := (by rw [eRn118]; exact ra_s hI114 (by decide +kernel))
              have hs121 : RS Rn118 := (by rw [eRn118]; exact rs_s hs115 (by decide +kernel))
              refine lv_iload hx hb dX6_setGroup_110 (lv_at hl 0 rfl) ?_
              exact W.iret (v := Rn84 0 (72 + p1).toNatClampNeg) hx hb hr (fun t ht hWw => ⟨⟨Rn84 0 (72 + p1).toNatClampNeg, Rn118, rfl, ⟨hR.symm.trans eR, hI120, hs121⟩, by rw [ht]; exact hP, hD⟩, hS.F ht⟩) hS.2.2 dX6_setGroup_112
            · rw [if_neg c116] at hR
              refine lv_iload_n hx hb dX6_setGroup_97 rfl (lv_at hl 4 rfl) ?_
              refine lv_if_ne (tgt := 107) hx hb dX6_setGroup_98 (by decide) (fun c122 => ?_) (fun c122 => ?_)
              · rw [if_neg c122] at hR
                refine lv_iconst (v := 0) hx hb dX6_setGroup_107 (by decide) ?_
                refine lv_ior hx hb dX6_setGroup_108 ?_
                refine va_iast (f := Rn112 0) hx hb hK hP hD hS 1 0 rfl rfl (vp_of_B (by decide +kernel : vp_okB (180) 289 = true)) dX6_setGroup_109 (fun H123 locs hP hD hS => ?_)
                have hP : va_P (dC, dI) vwCl (cMd a cI (sU Rn112 0 180 ((Rn112 0 180) ||| 0))) H123 := hP
                have hD : va_D (va_A (cMd a cI R) s.heap.size) (cMd a cI (sU Rn112 0 180 ((Rn112 0 180) ||| 0))) := hD
                obtain ⟨Rn124, eRn124⟩ : ∃ z : SR, z = sU Rn112 0 180 ((Rn112 0 180) ||| 0) := ⟨_, rfl⟩
                rw [sLet_eq, ← eRn124] at hR
                rw [← eRn124] at hP hD
                have hI126 : RA Rn124 := (by rw [eRn124]; exact ra_s hI114 (by decide +kernel))
                have hs127 : RS Rn124 := (by rw [eRn124]; exact rs_s hs115 (by decide +kernel))
                refine lv_iload hx hb dX6_setGroup_110 (lv_at hl 0 rfl) ?_
                exact W.iret (v := Rn84 0 (72 + p1).toNatClampNeg) hx hb hr (fun t ht hWw => ⟨⟨Rn84 0 (72 + p1).toNatClampNeg, Rn124, rfl, ⟨hR.symm.trans eR, hI126, hs127⟩, by rw [ht]; exact hP, hD⟩, hS.F ht⟩) hS.2.2 dX6_setGroup_112
              · rw [if_pos c122] at hR
                refine lv_iconst (v := 1) hx hb dX6_setGroup_101 (by decide) ?_
                refine lv_iload_n hx hb dX6_setGroup_102 rfl (lv_at hl 3 rfl) ?_
                refine lv_ishl hx hb dX6_setGroup_103 ?_
                refine lv_goto (tgt := 108) hx hb dX6_setGroup_104 (by decide) ?_
                refine lv_ior hx hb dX6_setGroup_108 ?_
                refine va_iast (f := Rn112 0) hx hb hK hP hD hS 1 0 rfl rfl (vp_of_B (by decide +kernel : vp_okB (180) 289 = true)) dX6_setGroup_109 (fun H128 locs hP hD hS => ?_)
                have hP : va_P (dC, dI) vwCl (cMd a cI (sU Rn112 0 180 ((Rn112 0 180) ||| (1 <<< (p1 &&& 31))))) H128 := hP
                have hD : va_D (va_A (cMd a cI R) s.heap.size) (cMd a cI (sU Rn112 0 180 ((Rn112 0 180) ||| (1 <<< (p1 &&& 31))))) := hD
                obtain ⟨Rn129, eRn129⟩ : ∃ z : SR, z = sU Rn112 0 180 ((Rn112 0 180) ||| (1 <<< (p1 &&& 31))) := ⟨_, rfl⟩
                rw [sLet_eq, ← eRn129] at hR
                rw [← eRn129] at hP hD
                have hI131 : RA Rn129 := (by rw [eRn129]; exact ra_s hI114 (by decide +kernel))
                have hs132 : RS Rn129 := (by rw [eRn129]; exact rs_s hs115 (by decide +kernel))
                refine lv_iload hx hb dX6_setGroup_110 (lv_at hl 0 rfl) ?_
                exact W.iret (v := Rn84 0 (72 + p1).toNatClampNeg) hx hb hr (fun t ht hWw => ⟨⟨Rn84 0 (72 + p1).toNatClampNeg, Rn129, rfl, ⟨hR.symm.trans eR, hI131, hs132⟩, by rw [ht]; exact hP, hD⟩, hS.F ht⟩) hS.2.2 dX6_setGroup_112
        · rw [if_pos c77] at hR
          refine lv_iconst (v := (-1)) hx hb dX6_setGroup_39 (by decide) ?_
          exact W.iret (v := (-1)) hx hb hr (fun t ht hWw => ⟨⟨(-1), Rn2, rfl, ⟨hR.symm.trans eR, hI4, hs5⟩, by rw [ht]; exact hP, hD⟩, hS.F ht⟩) hS.2.2 dX6_setGroup_40
abbrev rm_X6_setSend : Room := { frames := 2, cells := 0, slots := 0, locals := 42 }
def f_X6_setSend (R : SR) (p1 : Int32) (p2 : Int32) (p3 : Int32) : Int32 × SR := sLet (sU R 6 0 0) (fun Rn2 : SR => (if (f_X6_isFour p1) = 0 then ((-1), Rn2) else (if (f_X6_isChannel p2) = 0 then ((-1), Rn2) else (if (f_X6_in p3 0 100) = 0 then ((-1), Rn2) else sLet ((f_X6_act Rn2)) (fun Rn24 : SR => sLet (sU Rn24 0 ((88 + (12 * p1)) + p2).toNatClampNeg p3) (fun Rn31 : SR => (f_X6_sendOf Rn24 p1 p2, Rn31)))))))
theorem ok_42 : ∀ q0 : Nat, q0 < 4 → ∀ q1 : Nat, q1 < 12 → okR ((88 + (12 * (nI q0))) + (nI q1)).toNatClampNeg = true := by decide +kernel
theorem ok_43 : ∀ q0 : Nat, q0 < 4 → ∀ q1 : Nat, q1 < 12 → okT ((88 + (12 * (nI q0))) + (nI q1)).toNatClampNeg = true := by decide +kernel
set_option maxHeartbeats 4000000 in
set_option maxRecDepth 100000 in
theorem c_X6_setSend (l : Launch) (dC : Nat → ClassId) (dI : Nat → Nat → Nat) (cI cC cS : ClassId) (a : Nat → Nat) (R : SR) (sz : Nat) (p1 : Int32) (p2 : Int32) (p3 : Int32) (ohv : vp_in (R 6 1) 6) (hI : RA R) (hs : RS R) : Met l yX6_setSend wsX6_setSend rm_X6_setSend (PcG (dC, dI) (tyL cI cC cS) (cMd a cI R) sz [.ref (a 0), .int p1, .int p2, .int p3]) (va_Qi (fun (r : Int32) (u : SR) => (r, u) = f_X6_setSend R p1 p2 p3 ∧ (RA u) ∧ (RS u)) (fun u U => va_P (dC, dI) vwCl (cMd a cI u) U.heap ∧ va_D (va_A (cMd a cI R) sz) (cMd a cI u)) (va_A (cMd a cI R) sz)) 0 0 (va_A (cMd a cI R) sz) := by
  refine Met.ofW (cc := cX6_setSend) (maxL := 5) (ret := (some .int)) (by decide) rfl ?_
  intro p e s m args below meth c s₁ B hml hv
  obtain ⟨rfl, hsz, hP, hK, hD0, hN⟩ := hv
  have hx := B.exec
  have hb := B.bytes
  have hr := B.returns
  have hts := atoms_spec (ws := wsX6_setSend) B.pre
  have hown : s.vm.findClass RX6 = some m.cls := findClass_of_methodNamed B.named
  have hlocks := B.notSynchronized
  subst hsz
  have hD := hD0.self (sz := s.heap.size)
  have hA : ∀ q : Nat, s.heap.size ≤ q → (va_A (cMd a cI R) s.heap.size) q := fun q h => Or.inr h
  have hS : va_S (va_A (cMd a cI R) s.heap.size) s.heap s.heap [] := va_S.rf
  have hin6 : ∀ w ∈ wsX60, w ∈ wsX6_setSend := fun _ h => List.mem_cons_of_mem _ (List.mem_append_right _ h)
  have hl := lv_entry [.ref (a 0), .int p1, .int p2, .int p3] (n := 5) (Nat.le_of_ble_eq_true rfl)
  rw [lg_entry_eq]
  generalize (lg_sl [.ref (a 0), .int p1, .int p2, .int p3] ++ List.replicate (5 - (lg_sl [.ref (a 0), .int p1, .int p2, .int p3]).length) Slot.unset).toArray = ls at hl ⊢
  have hl : lv_has ls 5 [(0, .ref (a 0)), (1, .int p1), (2, .int p2), (3, .int p3)] := hl
  obtain ⟨R0, eR⟩ : ∃ z, z = f_X6_setSend R p1 p2 p3 := ⟨_, rfl⟩
  have hR := eR
  rw [f_X6_setSend] at hR
  refine lv_aload_n hx hb dX6_setSend_0 rfl (lv_at hl 0 rfl) ?_
  refine lv_iconst (v := 0) hx hb dX6_setSend_1 (by decide) ?_
  refine va_put (D := (dC, dI)) (ci := 6) (v := .int 0) (ty := .int) (C := RX6) (T := TX6) (N := 15) hx hb hts hin6 tyX6 tyX6_ok nmX6 hown hK hP hD hS 0 rfl rfl 0 (by decide) (hts (.fieldLink RX6 28 "FeedDeskModel" "thrown" "I") (List.mem_of_getElem? (i := 1) rfl)) (fun _ h9 => h9) rfl (by decide +kernel) rfl rfl (Nat.le_of_ble_eq_true rfl) dX6_setSend_2 (fun H1 locs hP hD hS => ?_)
  have hP : va_P (dC, dI) vwCl (cMd a cI (sU R 6 0 0)) H1 := hP
  have hD : va_D (va_A (cMd a cI R) s.heap.size) (cMd a cI (sU R 6 0 0)) := hD
  obtain ⟨Rn2, eRn2⟩ : ∃ z : SR, z = sU R 6 0 0 := ⟨_, rfl⟩
  rw [sLet_eq, ← eRn2] at hR
  rw [← eRn2] at hP hD
  have ohv3 : vp_in (Rn2 6 1) 6 := (by rw [eRn2]; exact ohv)
  have hI4 : RA Rn2 := (by rw [eRn2]; exact hI)
  have hs5 : RS Rn2 := (by rw [eRn2]; exact hs)
  refine lv_iload_n hx hb dX6_setSend_5 rfl (lv_at hl 1 rfl) ?_
  have hFc : ∀ q : Nat, va_A [] H1.size q → (va_A (cMd a cI R) s.heap.size) q := roF hS hA
  refine va_calli (va_runS (As := [.int p1]) (rest := []) ⟨hx, hb, hml, hown, hts⟩ (c_X6_isFour l dC dI cI cC cS H1.size p1) (va_cwS 1 hts gX6_setSend_X6_isFour rfl rfl rfl (by decide +kernel) ⟨Nat.le_of_ble_eq_true rfl, Nat.le_of_ble_eq_true rfl⟩) (pS hK (va_P_nil) (va_D_nil) hN) rfl rfl hl.1 rfl (lv_room (Nat.le_of_ble_eq_true rfl)) dX6_setSend_6 ⟨Nat.le_of_ble_eq_true rfl, Nat.le_of_ble_eq_true rfl⟩) hS (fun q _ h => hFc q h) hFc (fun r_6 u_6 t_6 H7 locs ht hvm hw hB hz1 hk1 hS => ?_)
  obtain ⟨hw, hre8⟩ := hw
  subst hw
  have hP := ro_keep hP hk1
  refine lv_if_eq (tgt := 29) hx hb dX6_setSend_9 (by decide) (fun c9 => ?_) (fun c9 => ?_)
  · rw [if_pos c9] at hR
    refine lv_iconst (v := (-1)) hx hb dX6_setSend_29 (by decide) ?_
    exact W.iret (v := (-1)) hx hb hr (fun t ht hWw => ⟨⟨(-1), Rn2, rfl, ⟨hR.symm.trans eR, hI4, hs5⟩, by rw [ht]; exact hP, hD⟩, hS.F ht⟩) hS.2.2 dX6_setSend_30
  · rw [if_neg c9] at hR
    obtain ⟨ip1, hip1, ep1⟩ := vp_in_of (four_vp c9) (by decide)
    refine lv_iload_n hx hb dX6_setSend_12 rfl (lv_at hl 2 rfl) ?_
    have hFc : ∀ q : Nat, va_A [] H7.size q → (va_A (cMd a cI R) s.heap.size) q := roF hS hA
    refine va_calli (va_runS (As := [.int p2]) (rest := []) ⟨hx, hb, hml, hown, hts⟩ (c_X6_isChannel l dC dI cI cC cS H7.size p2) (va_cwS 1 hts gX6_setSend_X6_isChannel rfl rfl rfl (by decide +kernel) ⟨Nat.le_of_ble_eq_true rfl, Nat.le_of_ble_eq_true rfl⟩) (pS hK (va_P_nil) (va_D_nil) hN) rfl rfl hl.1 rfl (lv_room (Nat.le_of_ble_eq_true rfl)) dX6_setSend_13 ⟨Nat.le_of_ble_eq_true rfl, Nat.le_of_ble_eq_true rfl⟩) hS (fun q _ h => hFc q h) hFc (fun r_10 u_10 t_10 H11 locs ht hvm hw hB hz1 hk1 hS => ?_)
    obtain ⟨hw, hre12⟩ := hw
    subst hw
    have hP := ro_keep hP hk1
    refine lv_if_eq (tgt := 29) hx hb dX6_setSend_16 (by decide) (fun c13 => ?_) (fun c13 => ?_)
    · rw [if_pos c13] at hR
      refine lv_iconst (v := (-1)) hx hb dX6_setSend_29 (by decide) ?_
      exact W.iret (v := (-1)) hx hb hr (fun t ht hWw => ⟨⟨(-1), Rn2, rfl, ⟨hR.symm.trans eR, hI4, hs5⟩, by rw [ht]; exact hP, hD⟩, hS.F ht⟩) hS.2.2 dX6_setSend_30
    · rw [if_neg c13] at hR
      obtain ⟨ip2, hip2, ep2⟩ := vp_in_of (ch_vp c13) (by decide)
      refine lv_iload_n hx hb dX6_setSend_19 rfl (lv_at hl 3 rfl) ?_
      refine lv_iconst (v := 0) hx hb dX6_setSend_20 (by decide) ?_
      refine lv_bipush (v := 100) hx hb dX6_setSend_21 (by decide) ?_
      have hFc : ∀ q : Nat, va_A [] H11.size q → (va_A (cMd a cI R) s.heap.size) q := roF hS hA
      refine va_calli (va_runS (As := [.int p3, .int 0, .int 100]) (rest := []) ⟨hx, hb, hml, hown, hts⟩ (c_X6_in l dC dI cI cC cS H11.size p3 0 100) (va_cwS 3 hts gX6_setSend_X6_in rfl rfl rfl (by decide +kernel) ⟨Nat.le_of_ble_eq_true rfl, Nat.le_of_ble_eq_true rfl⟩) (pS hK (va_P_nil) (va_D_nil) hN) rfl rfl hl.1 rfl (lv_room (Nat.le_of_ble_eq_true rfl)) dX6_setSend_23 ⟨Nat.le_of_ble_eq_true rfl, Nat.le_of_ble_eq_true rfl⟩) hS (fun q _ h => hFc q h) hFc (fun r_14 u_14 t_14 H15 locs ht hvm hw hB hz1 hk1 hS => ?_)
      obtain ⟨hw, hre16⟩ := hw
      subst hw
      have hP := ro_keep hP hk1
      refine lv_if_ne (tgt := 31) hx hb dX6_setSend_26 (by decide) (fun c17 => ?_) (fun c17 => ?_)
      · rw [if_neg c17] at hR
        refine lv_aload_n hx hb dX6_setSend_31 rfl (lv_at hl 0 rfl) ?_
        have hPc : va_P (dC, dI) vwCl (cMd a cI Rn2) H15 := hP.sub [0, 1, 2, 3, 4, 5, 6] rfl
        have hDc : va_D (va_A (cMd a cI R) s.heap.size) (cMd a cI Rn2) := hD.sub [0, 1, 2, 3, 4, 5, 6] (by decide) rfl
        have hFc : ∀ q : Nat, va_A (cMd a cI Rn2) H15.size q → (va_A (cMd a cI R) s.heap.size) q := va_free hD hS hA [0, 1, 2, 3, 4, 5, 6] rfl
        refine va_callv (va_runV (As := []) (rest := []) ⟨hx, hb, hml, hown, hts⟩ (c_X6_act l dC dI cI cC cS a Rn2 H15.size ohv3) (cwV 0 hts gX6_setSend_X6_act rfl rfl rfl (by decide +kernel) ⟨Nat.le_of_ble_eq_true rfl, Nat.le_of_ble_eq_true rfl⟩) (pV (q0 := 0) hK hPc hDc hN rfl rfl) rfl rfl hl.1 rfl (lv_room (Nat.le_of_ble_eq_true rfl)) dX6_setSend_32 ⟨Nat.le_of_ble_eq_true rfl, Nat.le_of_ble_eq_true rfl⟩) hS (fun q _ h => hFc q h) hFc (fun u_18 t_18 H19 locs ht hvm hw hB hz1 hk1 hS => ?_)
        obtain ⟨hw, hens20, hens21, hens22, hens23⟩ := hw
        obtain ⟨hP1, hD1⟩ := hB
        rw [ht] at hP1
        subst hw
        obtain ⟨hP, hD⟩ := va_join (wc := cMd a cI Rn2) (wr := []) (w1 := cMd a cI (f_X6_act Rn2)) hP hD [0, 1, 2, 3, 4, 5, 6] [] rfl rfl (by decide) (by decide) hk1 hFc hP1 hD1
        have hP : va_P (dC, dI) vwCl (cMd a cI (f_X6_act Rn2)) H19 := hP.sub [0, 1, 2, 3, 4, 5, 6] rfl
        have hD : va_D (va_A (cMd a cI R) s.heap.size) (cMd a cI (f_X6_act Rn2)) := hD.sub [0, 1, 2, 3, 4, 5, 6] (by decide) rfl
        obtain ⟨Rn24, eRn24⟩ : ∃ z : SR, z = (f_X6_act Rn2) := ⟨_, rfl⟩
        rw [sLet_eq, ← eRn24] at hR
        rw [← eRn24] at hP hD
        have hI26 : RA Rn24 := (by rw [eRn24]; exact ra_eq hI4 hens20)
        have hs27 : RS Rn24 := (by rw [eRn24]; exact rs_eq0 hs5 hens20)
        refine lv_aload_n hx hb dX6_setSend_35 rfl (lv_at hl 0 rfl) ?_
        refine lv_iload_n hx hb dX6_setSend_36 rfl (lv_at hl 1 rfl) ?_
        refine lv_iload_n hx hb dX6_setSend_37 rfl (lv_at hl 2 rfl) ?_
        have hPc : va_P (dC, dI) vwCl (cMd a cI Rn24) H19 := hP.sub [0, 1, 2, 3, 4, 5, 6] rfl
        have hDc : va_D (va_A (cMd a cI R) s.heap.size) (cMd a cI Rn24) := hD.sub [0, 1, 2, 3, 4, 5, 6] (by decide) rfl
        have hFc : ∀ q : Nat, va_A [] H19.size q → (va_A (cMd a cI R) s.heap.size) q := roF hS hA
        refine va_calli (va_runV (As := [.int p1, .int p2]) (rest := []) ⟨hx, hb, hml, hown, hts⟩ (c_X6_sendOf l dC dI cI cC cS a Rn24 H19.size p1 p2 (four_vp c9) (ch_vp c13)) (cwV 2 hts gX6_setSend_X6_sendOf rfl rfl rfl (by decide +kernel) ⟨Nat.le_of_ble_eq_true rfl, Nat.le_of_ble_eq_true rfl⟩) (pV (q0 := 0) hK hPc hDc hN rfl rfl) rfl rfl hl.1 rfl (lv_room (Nat.le_of_ble_eq_true rfl)) dX6_setSend_38 ⟨Nat.le_of_ble_eq_true rfl, Nat.le_of_ble_eq_true rfl⟩) hS (fun q _ h => hFc q h) hFc (fun r_28 u_28 t_28 H29 locs ht hvm hw hB hz1 hk1 hS => ?_)
        subst hw
        have hP := ro_keep hP hk1
        refine lv_istore (lv' := [(4, .int (f_X6_sendOf Rn24 p1 p2)), (0, .ref (a 0)), (1, .int p1), (2, .int p2), (3, .int p3)]) hx hb dX6_setSend_41 hl (by decide) rfl (fun ls hl => ?_)
        refine lv_aload_n hx hb dX6_setSend_43 rfl (lv_at hl 1 rfl) ?_
        refine va_get (D := (dC, dI)) (ci := 6) (v := .ref (a 1)) (C := RX6) (T := TX6) (N := 15) hx hb hts hin6 hown hK hP 0 rfl rfl 1 (by decide) (hts (.fieldLink RX6 7 "FeedDeskModel" "s" "[I") (List.mem_of_getElem? (i := 2) rfl)) (fun _ h9 => h9) rfl dX6_setSend_44 ?_
        refine lv_bipush (v := 88) hx hb dX6_setSend_47 (by decide) ?_
        refine lv_bipush (v := 12) hx hb dX6_setSend_49 (by decide) ?_
        refine lv_iload_n hx hb dX6_setSend_51 rfl (lv_at hl 2 rfl) ?_
        refine lv_imul hx hb dX6_setSend_52 ?_
        refine lv_iadd hx hb dX6_setSend_53 ?_
        refine lv_iload_n hx hb dX6_setSend_54 rfl (lv_at hl 3 rfl) ?_
        refine lv_iadd hx hb dX6_setSend_55 ?_
        refine lv_iload_n hx hb dX6_setSend_56 rfl (lv_at hl 4 rfl) ?_
        refine va_iast (f := Rn24 0) hx hb hK hP hD hS 1 0 rfl rfl (by rw [ep1, ep2]; exact vp_of_B (ix_14 ip1 hip1 ip2 hip2)) dX6_setSend_57 (fun H30 locs hP hD hS => ?_)
        have hP : va_P (dC, dI) vwCl (cMd a cI (sU Rn24 0 ((88 + (12 * p1)) + p2).toNatClampNeg p3)) H30 := hP
        have hD : va_D (va_A (cMd a cI R) s.heap.size) (cMd a cI (sU Rn24 0 ((88 + (12 * p1)) + p2).toNatClampNeg p3)) := hD
        obtain ⟨Rn31, eRn31⟩ : ∃ z : SR, z = sU Rn24 0 ((88 + (12 * p1)) + p2).toNatClampNeg p3 := ⟨_, rfl⟩
        rw [sLet_eq, ← eRn31] at hR
        rw [← eRn31] at hP hD
        have hI33 : RA Rn31 := (by rw [eRn31]; exact ra_s hI26 (by rw [ep1, ep2]; exact ok_42 ip1 hip1 ip2 hip2))
        have hs34 : RS Rn31 := (by rw [eRn31]; exact rs_s hs27 (by rw [ep1, ep2]; exact ok_43 ip1 hip1 ip2 hip2))
        refine lv_iload hx hb dX6_setSend_58 (lv_at hl 0 rfl) ?_
        exact W.iret (v := f_X6_sendOf Rn24 p1 p2) hx hb hr (fun t ht hWw => ⟨⟨f_X6_sendOf Rn24 p1 p2, Rn31, rfl, ⟨hR.symm.trans eR, hI33, hs34⟩, by rw [ht]; exact hP, hD⟩, hS.F ht⟩) hS.2.2 dX6_setSend_60
      · rw [if_pos c17] at hR
        refine lv_iconst (v := (-1)) hx hb dX6_setSend_29 (by decide) ?_
        exact W.iret (v := (-1)) hx hb hr (fun t ht hWw => ⟨⟨(-1), Rn2, rfl, ⟨hR.symm.trans eR, hI4, hs5⟩, by rw [ht]; exact hP, hD⟩, hS.F ht⟩) hS.2.2 dX6_setSend_30
abbrev rm_X6_setOwner : Room := { frames := 2, cells := 0, slots := 0, locals := 42 }
def f_X6_setOwner (R : SR) (p1 : Int32) (p2 : Int32) (p3 : Int32) : Int32 × SR := sLet (sU R 6 0 0) (fun Rn2 : SR => (if (f_X6_isFour p1) = 0 then ((-1), Rn2) else (if (f_X6_isChannel p2) = 0 then ((-1), Rn2) else (if (f_X6_in p3 0 1) = 0 then ((-1), Rn2) else sLet ((f_X6_act Rn2)) (fun Rn24 : SR => sLet (sU Rn24 0 (80 + p1).toNatClampNeg (((Rn24 0 (80 + p1).toNatClampNeg) &&& ((1 <<< (p2 &&& 31)) ^^^ (-1))) ||| (p3 <<< (p2 &&& 31)))) (fun Rn29 : SR => (f_X6_bits (Rn29 0 (80 + p1).toNatClampNeg), Rn29)))))))
theorem ok_44 : ∀ q0 : Nat, q0 < 4 → okR (80 + (nI q0)).toNatClampNeg = true := by decide +kernel
theorem ok_45 : ∀ q0 : Nat, q0 < 4 → okT (80 + (nI q0)).toNatClampNeg = true := by decide +kernel
set_option maxHeartbeats 4000000 in
set_option maxRecDepth 100000 in
theorem c_X6_setOwner (l : Launch) (dC : Nat → ClassId) (dI : Nat → Nat → Nat) (cI cC cS : ClassId) (a : Nat → Nat) (R : SR) (sz : Nat) (p1 : Int32) (p2 : Int32) (p3 : Int32) (ohv : vp_in (R 6 1) 6) (hI : RA R) (hs : RS R) : Met l yX6_setOwner wsX6_setOwner rm_X6_setOwner (PcG (dC, dI) (tyL cI cC cS) (cMd a cI R) sz [.ref (a 0), .int p1, .int p2, .int p3]) (va_Qi (fun (r : Int32) (u : SR) => (r, u) = f_X6_setOwner R p1 p2 p3 ∧ (RA u) ∧ (RS u)) (fun u U => va_P (dC, dI) vwCl (cMd a cI u) U.heap ∧ va_D (va_A (cMd a cI R) sz) (cMd a cI u)) (va_A (cMd a cI R) sz)) 0 0 (va_A (cMd a cI R) sz) := by
  refine Met.ofW (cc := cX6_setOwner) (maxL := 4) (ret := (some .int)) (by decide) rfl ?_
  intro p e s m args below meth c s₁ B hml hv
  obtain ⟨rfl, hsz, hP, hK, hD0, hN⟩ := hv
  have hx := B.exec
  have hb := B.bytes
  have hr := B.returns
  have hts := atoms_spec (ws := wsX6_setOwner) B.pre
  have hown : s.vm.findClass RX6 = some m.cls := findClass_of_methodNamed B.named
  have hlocks := B.notSynchronized
  subst hsz
  have hD := hD0.self (sz := s.heap.size)
  have hA : ∀ q : Nat, s.heap.size ≤ q → (va_A (cMd a cI R) s.heap.size) q := fun q h => Or.inr h
  have hS : va_S (va_A (cMd a cI R) s.heap.size) s.heap s.heap [] := va_S.rf
  have hin6 : ∀ w ∈ wsX60, w ∈ wsX6_setOwner := fun _ h => List.mem_cons_of_mem _ (List.mem_append_right _ h)
  have hl := lv_entry [.ref (a 0), .int p1, .int p2, .int p3] (n := 4) (Nat.le_of_ble_eq_true rfl)
  rw [lg_entry_eq]
  generalize (lg_sl [.ref (a 0), .int p1, .int p2, .int p3] ++ List.replicate (4 - (lg_sl [.ref (a 0), .int p1, .int p2, .int p3]).length) Slot.unset).toArray = ls at hl ⊢
  have hl : lv_has ls 4 [(0, .ref (a 0)), (1, .int p1), (2, .int p2), (3, .int p3)] := hl
  obtain ⟨R0, eR⟩ : ∃ z, z = f_X6_setOwner R p1 p2 p3 := ⟨_, rfl⟩
  have hR := eR
  rw [f_X6_setOwner] at hR
  refine lv_aload_n hx hb dX6_setOwner_0 rfl (lv_at hl 0 rfl) ?_
  refine lv_iconst (v := 0) hx hb dX6_setOwner_1 (by decide) ?_
  refine va_put (D := (dC, dI)) (ci := 6) (v := .int 0) (ty := .int) (C := RX6) (T := TX6) (N := 15) hx hb hts hin6 tyX6 tyX6_ok nmX6 hown hK hP hD hS 0 rfl rfl 0 (by decide) (hts (.fieldLink RX6 28 "FeedDeskModel" "thrown" "I") (List.mem_of_getElem? (i := 1) rfl)) (fun _ h9 => h9) rfl (by decide +kernel) rfl rfl (Nat.le_of_ble_eq_true rfl) dX6_setOwner_2 (fun H1 locs hP hD hS => ?_)
  have hP : va_P (dC, dI) vwCl (cMd a cI (sU R 6 0 0)) H1 := hP
  have hD : va_D (va_A (cMd a cI R) s.heap.size) (cMd a cI (sU R 6 0 0)) := hD
  obtain ⟨Rn2, eRn2⟩ : ∃ z : SR, z = sU R 6 0 0 := ⟨_, rfl⟩
  rw [sLet_eq, ← eRn2] at hR
  rw [← eRn2] at hP hD
  have ohv3 : vp_in (Rn2 6 1) 6 := (by rw [eRn2]; exact ohv)
  have hI4 : RA Rn2 := (by rw [eRn2]; exact hI)
  have hs5 : RS Rn2 := (by rw [eRn2]; exact hs)
  refine lv_iload_n hx hb dX6_setOwner_5 rfl (lv_at hl 1 rfl) ?_
  have hFc : ∀ q : Nat, va_A [] H1.size q → (va_A (cMd a cI R) s.heap.size) q := roF hS hA
  refine va_calli (va_runS (As := [.int p1]) (rest := []) ⟨hx, hb, hml, hown, hts⟩ (c_X6_isFour l dC dI cI cC cS H1.size p1) (va_cwS 1 hts gX6_setOwner_X6_isFour rfl rfl rfl (by decide +kernel) ⟨Nat.le_of_ble_eq_true rfl, Nat.le_of_ble_eq_true rfl⟩) (pS hK (va_P_nil) (va_D_nil) hN) rfl rfl hl.1 rfl (lv_room (Nat.le_of_ble_eq_true rfl)) dX6_setOwner_6 ⟨Nat.le_of_ble_eq_true rfl, Nat.le_of_ble_eq_true rfl⟩) hS (fun q _ h => hFc q h) hFc (fun r_6 u_6 t_6 H7 locs ht hvm hw hB hz1 hk1 hS => ?_)
  obtain ⟨hw, hre8⟩ := hw
  subst hw
  have hP := ro_keep hP hk1
  refine lv_if_eq (tgt := 28) hx hb dX6_setOwner_9 (by decide) (fun c9 => ?_) (fun c9 => ?_)
  · rw [if_pos c9] at hR
    refine lv_iconst (v := (-1)) hx hb dX6_setOwner_28 (by decide) ?_
    exact W.iret (v := (-1)) hx hb hr (fun t ht hWw => ⟨⟨(-1), Rn2, rfl, ⟨hR.symm.trans eR, hI4, hs5⟩, by rw [ht]; exact hP, hD⟩, hS.F ht⟩) hS.2.2 dX6_setOwner_29
  · rw [if_neg c9] at hR
    obtain ⟨ip1, hip1, ep1⟩ := vp_in_of (four_vp c9) (by decide)
    refine lv_iload_n hx hb dX6_setOwner_12 rfl (lv_at hl 2 rfl) ?_
    have hFc : ∀ q : Nat, va_A [] H7.size q → (va_A (cMd a cI R) s.heap.size) q := roF hS hA
    refine va_calli (va_runS (As := [.int p2]) (rest := []) ⟨hx, hb, hml, hown, hts⟩ (c_X6_isChannel l dC dI cI cC cS H7.size p2) (va_cwS 1 hts gX6_setOwner_X6_isChannel rfl rfl rfl (by decide +kernel) ⟨Nat.le_of_ble_eq_true rfl, Nat.le_of_ble_eq_true rfl⟩) (pS hK (va_P_nil) (va_D_nil) hN) rfl rfl hl.1 rfl (lv_room (Nat.le_of_ble_eq_true rfl)) dX6_setOwner_13 ⟨Nat.le_of_ble_eq_true rfl, Nat.le_of_ble_eq_true rfl⟩) hS (fun q _ h => hFc q h) hFc (fun r_10 u_10 t_10 H11 locs ht hvm hw hB hz1 hk1 hS => ?_)
    obtain ⟨hw, hre12⟩ := hw
    subst hw
    have hP := ro_keep hP hk1
    refine lv_if_eq (tgt := 28) hx hb dX6_setOwner_16 (by decide) (fun c13 => ?_) (fun c13 => ?_)
    · rw [if_pos c13] at hR
      refine lv_iconst (v := (-1)) hx hb dX6_setOwner_28 (by decide) ?_
      exact W.iret (v := (-1)) hx hb hr (fun t ht hWw => ⟨⟨(-1), Rn2, rfl, ⟨hR.symm.trans eR, hI4, hs5⟩, by rw [ht]; exact hP, hD⟩, hS.F ht⟩) hS.2.2 dX6_setOwner_29
    · rw [if_neg c13] at hR
      refine lv_iload_n hx hb dX6_setOwner_19 rfl (lv_at hl 3 rfl) ?_
      refine lv_iconst (v := 0) hx hb dX6_setOwner_20 (by decide) ?_
      refine lv_iconst (v := 1) hx hb dX6_setOwner_21 (by decide) ?_
      have hFc : ∀ q : Nat, va_A [] H11.size q → (va_A (cMd a cI R) s.heap.size) q := roF hS hA
      refine va_calli (va_runS (As := [.int p3, .int 0, .int 1]) (rest := []) ⟨hx, hb, hml, hown, hts⟩ (c_X6_in l dC dI cI cC cS H11.size p3 0 1) (va_cwS 3 hts gX6_setOwner_X6_in rfl rfl rfl (by decide +kernel) ⟨Nat.le_of_ble_eq_true rfl, Nat.le_of_ble_eq_true rfl⟩) (pS hK (va_P_nil) (va_D_nil) hN) rfl rfl hl.1 rfl (lv_room (Nat.le_of_ble_eq_true rfl)) dX6_setOwner_22 ⟨Nat.le_of_ble_eq_true rfl, Nat.le_of_ble_eq_true rfl⟩) hS (fun q _ h => hFc q h) hFc (fun r_14 u_14 t_14 H15 locs ht hvm hw hB hz1 hk1 hS => ?_)
      obtain ⟨hw, hre16⟩ := hw
      subst hw
      have hP := ro_keep hP hk1
      refine lv_if_ne (tgt := 30) hx hb dX6_setOwner_25 (by decide) (fun c17 => ?_) (fun c17 => ?_)
      · rw [if_neg c17] at hR
        refine lv_aload_n hx hb dX6_setOwner_30 rfl (lv_at hl 0 rfl) ?_
        have hPc : va_P (dC, dI) vwCl (cMd a cI Rn2) H15 := hP.sub [0, 1, 2, 3, 4, 5, 6] rfl
        have hDc : va_D (va_A (cMd a cI R) s.heap.size) (cMd a cI Rn2) := hD.sub [0, 1, 2, 3, 4, 5, 6] (by decide) rfl
        have hFc : ∀ q : Nat, va_A (cMd a cI Rn2) H15.size q → (va_A (cMd a cI R) s.heap.size) q := va_free hD hS hA [0, 1, 2, 3, 4, 5, 6] rfl
        refine va_callv (va_runV (As := []) (rest := []) ⟨hx, hb, hml, hown, hts⟩ (c_X6_act l dC dI cI cC cS a Rn2 H15.size ohv3) (cwV 0 hts gX6_setOwner_X6_act rfl rfl rfl (by decide +kernel) ⟨Nat.le_of_ble_eq_true rfl, Nat.le_of_ble_eq_true rfl⟩) (pV (q0 := 0) hK hPc hDc hN rfl rfl) rfl rfl hl.1 rfl (lv_room (Nat.le_of_ble_eq_true rfl)) dX6_setOwner_31 ⟨Nat.le_of_ble_eq_true rfl, Nat.le_of_ble_eq_true rfl⟩) hS (fun q _ h => hFc q h) hFc (fun u_18 t_18 H19 locs ht hvm hw hB hz1 hk1 hS => ?_)
        obtain ⟨hw, hens20, hens21, hens22, hens23⟩ := hw
        obtain ⟨hP1, hD1⟩ := hB
        rw [ht] at hP1
        subst hw
        obtain ⟨hP, hD⟩ := va_join (wc := cMd a cI Rn2) (wr := []) (w1 := cMd a cI (f_X6_act Rn2)) hP hD [0, 1, 2, 3, 4, 5, 6] [] rfl rfl (by decide) (by decide) hk1 hFc hP1 hD1
        have hP : va_P (dC, dI) vwCl (cMd a cI (f_X6_act Rn2)) H19 := hP.sub [0, 1, 2, 3, 4, 5, 6] rfl
        have hD : va_D (va_A (cMd a cI R) s.heap.size) (cMd a cI (f_X6_act Rn2)) := hD.sub [0, 1, 2, 3, 4, 5, 6] (by decide) rfl
        obtain ⟨Rn24, eRn24⟩ : ∃ z : SR, z = (f_X6_act Rn2) := ⟨_, rfl⟩
        rw [sLet_eq, ← eRn24] at hR
        rw [← eRn24] at hP hD
        have hI26 : RA Rn24 := (by rw [eRn24]; exact ra_eq hI4 hens20)
        have hs27 : RS Rn24 := (by rw [eRn24]; exact rs_eq0 hs5 hens20)
        refine lv_aload_n hx hb dX6_setOwner_34 rfl (lv_at hl 0 rfl) ?_
        refine va_get (D := (dC, dI)) (ci := 6) (v := .ref (a 1)) (C := RX6) (T := TX6) (N := 15) hx hb hts hin6 hown hK hP 0 rfl rfl 1 (by decide) (hts (.fieldLink RX6 7 "FeedDeskModel" "s" "[I") (List.mem_of_getElem? (i := 2) rfl)) (fun _ h9 => h9) rfl dX6_setOwner_35 ?_
        refine lv_bipush (v := 80) hx hb dX6_setOwner_38 (by decide) ?_
        refine lv_iload_n hx hb dX6_setOwner_40 rfl (lv_at hl 1 rfl) ?_
        refine lv_iadd hx hb dX6_setOwner_41 ?_
        refine lv_aload_n hx hb dX6_setOwner_42 rfl (lv_at hl 0 rfl) ?_
        refine va_get (D := (dC, dI)) (ci := 6) (v := .ref (a 1)) (C := RX6) (T := TX6) (N := 15) hx hb hts hin6 hown hK hP 0 rfl rfl 1 (by decide) (hts (.fieldLink RX6 7 "FeedDeskModel" "s" "[I") (List.mem_of_getElem? (i := 2) rfl)) (fun _ h9 => h9) rfl dX6_setOwner_43 ?_
        refine lv_bipush (v := 80) hx hb dX6_setOwner_46 (by decide) ?_
        refine lv_iload_n hx hb dX6_setOwner_48 rfl (lv_at hl 1 rfl) ?_
        refine lv_iadd hx hb dX6_setOwner_49 ?_
        refine va_iald (f := Rn24 0) hx hb hK hP 1 0 rfl rfl (by rw [ep1]; exact vp_of_B (ix_15 ip1 hip1)) dX6_setOwner_50 ?_
        refine lv_iconst (v := 1) hx hb dX6_setOwner_51 (by decide) ?_
        refine lv_iload_n hx hb dX6_setOwner_52 rfl (lv_at hl 2 rfl) ?_
        refine lv_ishl hx hb dX6_setOwner_53 ?_
        refine lv_iconst (v := (-1)) hx hb dX6_setOwner_54 (by decide) ?_
        refine lv_ixor hx hb dX6_setOwner_55 ?_
        refine lv_iand hx hb dX6_setOwner_56 ?_
        refine lv_iload_n hx hb dX6_setOwner_57 rfl (lv_at hl 3 rfl) ?_
        refine lv_iload_n hx hb dX6_setOwner_58 rfl (lv_at hl 2 rfl) ?_
        refine lv_ishl hx hb dX6_setOwner_59 ?_
        refine lv_ior hx hb dX6_setOwner_60 ?_
        refine va_iast (f := Rn24 0) hx hb hK hP hD hS 1 0 rfl rfl (by rw [ep1]; exact vp_of_B (ix_15 ip1 hip1)) dX6_setOwner_61 (fun H28 locs hP hD hS => ?_)
        have hP : va_P (dC, dI) vwCl (cMd a cI (sU Rn24 0 (80 + p1).toNatClampNeg (((Rn24 0 (80 + p1).toNatClampNeg) &&& ((1 <<< (p2 &&& 31)) ^^^ (-1))) ||| (p3 <<< (p2 &&& 31))))) H28 := hP
        have hD : va_D (va_A (cMd a cI R) s.heap.size) (cMd a cI (sU Rn24 0 (80 + p1).toNatClampNeg (((Rn24 0 (80 + p1).toNatClampNeg) &&& ((1 <<< (p2 &&& 31)) ^^^ (-1))) ||| (p3 <<< (p2 &&& 31))))) := hD
        obtain ⟨Rn29, eRn29⟩ : ∃ z : SR, z = sU Rn24 0 (80 + p1).toNatClampNeg (((Rn24 0 (80 + p1).toNatClampNeg) &&& ((1 <<< (p2 &&& 31)) ^^^ (-1))) ||| (p3 <<< (p2 &&& 31))) := ⟨_, rfl⟩
        rw [sLet_eq, ← eRn29] at hR
        rw [← eRn29] at hP hD
        have hI31 : RA Rn29 := (by rw [eRn29]; exact ra_s hI26 (by rw [ep1]; exact ok_44 ip1 hip1))
        have hs32 : RS Rn29 := (by rw [eRn29]; exact rs_s hs27 (by rw [ep1]; exact ok_45 ip1 hip1))
        refine lv_aload_n hx hb dX6_setOwner_62 rfl (lv_at hl 0 rfl) ?_
        refine va_get (D := (dC, dI)) (ci := 6) (v := .ref (a 1)) (C := RX6) (T := TX6) (N := 15) hx hb hts hin6 hown hK hP 0 rfl rfl 1 (by decide) (hts (.fieldLink RX6 7 "FeedDeskModel" "s" "[I") (List.mem_of_getElem? (i := 2) rfl)) (fun _ h9 => h9) rfl dX6_setOwner_63 ?_
        refine lv_bipush (v := 80) hx hb dX6_setOwner_66 (by decide) ?_
        refine lv_iload_n hx hb dX6_setOwner_68 rfl (lv_at hl 1 rfl) ?_
        refine lv_iadd hx hb dX6_setOwner_69 ?_
        refine va_iald (f := Rn29 0) hx hb hK hP 1 0 rfl rfl (by rw [ep1]; exact vp_of_B (ix_15 ip1 hip1)) dX6_setOwner_70 ?_
        have hFc : ∀ q : Nat, va_A [] H28.size q → (va_A (cMd a cI R) s.heap.size) q := roF hS hA
        refine va_calli (va_runS (As := [.int (Rn29 0 (80 + p1).toNatClampNeg)]) (rest := []) ⟨hx, hb, hml, hown, hts⟩ (c_X6_bits l dC dI cI cC cS H28.size (Rn29 0 (80 + p1).toNatClampNeg)) (va_cwS 1 hts gX6_setOwner_X6_bits rfl rfl rfl (by decide +kernel) ⟨Nat.le_of_ble_eq_true rfl, Nat.le_of_ble_eq_true rfl⟩) (pS hK (va_P_nil) (va_D_nil) hN) rfl rfl hl.1 rfl (lv_room (Nat.le_of_ble_eq_true rfl)) dX6_setOwner_71 ⟨Nat.le_of_ble_eq_true rfl, Nat.le_of_ble_eq_true rfl⟩) hS (fun q _ h => hFc q h) hFc (fun r_33 u_33 t_33 H34 locs ht hvm hw hB hz1 hk1 hS => ?_)
        subst hw
        have hP := ro_keep hP hk1
        exact W.iret (v := f_X6_bits (Rn29 0 (80 + p1).toNatClampNeg)) hx hb hr (fun t ht hWw => ⟨⟨f_X6_bits (Rn29 0 (80 + p1).toNatClampNeg), Rn29, rfl, ⟨hR.symm.trans eR, hI31, hs32⟩, by rw [ht]; exact hP, hD⟩, hS.F ht⟩) hS.2.2 dX6_setOwner_74
      · rw [if_pos c17] at hR
        refine lv_iconst (v := (-1)) hx hb dX6_setOwner_28 (by decide) ?_
        exact W.iret (v := (-1)) hx hb hr (fun t ht hWw => ⟨⟨(-1), Rn2, rfl, ⟨hR.symm.trans eR, hI4, hs5⟩, by rw [ht]; exact hP, hD⟩, hS.F ht⟩) hS.2.2 dX6_setOwner_29
abbrev rm_X6_setReturn : Room := { frames := 2, cells := 0, slots := 0, locals := 42 }
def f_X6_setReturn (R : SR) (p1 : Int32) (p2 : Int32) : Int32 × SR := sLet (sU R 6 0 0) (fun Rn2 : SR => (if (f_X6_isFour p1) = 0 then ((-1), Rn2) else (if (f_X6_in p2 (-1) 11) = 0 then ((-1), Rn2) else (if p2 = (-1) then sLet ((f_X6_act Rn2)) (fun Rn57 : SR => sLet (sU Rn57 0 (84 + p1).toNatClampNeg p2) (fun Rn62 : SR => (Rn57 0 (84 + p1).toNatClampNeg, Rn62))) else (if (f_X6_backInto Rn2 p2) = (-99) then sLet ((f_X6_act Rn2)) (fun Rn25 : SR => sLet (sU Rn25 0 (84 + p1).toNatClampNeg p2) (fun Rn30 : SR => (Rn25 0 (84 + p1).toNatClampNeg, Rn30))) else (if (f_X6_backInto Rn2 p2) = p1 then sLet ((f_X6_act Rn2)) (fun Rn41 : SR => sLet (sU Rn41 0 (84 + p1).toNatClampNeg p2) (fun Rn46 : SR => (Rn41 0 (84 + p1).toNatClampNeg, Rn46))) else ((-2), Rn2)))))))
theorem ok_46 : ∀ q0 : Nat, q0 < 4 → okT (84 + (nI q0)).toNatClampNeg = true := by decide +kernel
set_option maxHeartbeats 4000000 in
set_option maxRecDepth 100000 in
theorem c_X6_setReturn (l : Launch) (dC : Nat → ClassId) (dI : Nat → Nat → Nat) (cI cC cS : ClassId) (a : Nat → Nat) (R : SR) (sz : Nat) (p1 : Int32) (p2 : Int32) (ohv : vp_in (R 6 1) 6) (hI : RA R) (hs : RS R) : Met l yX6_setReturn wsX6_setReturn rm_X6_setReturn (PcG (dC, dI) (tyL cI cC cS) (cMd a cI R) sz [.ref (a 0), .int p1, .int p2]) (va_Qi (fun (r : Int32) (u : SR) => (r, u) = f_X6_setReturn R p1 p2 ∧ (RA u) ∧ (RS u)) (fun u U => va_P (dC, dI) vwCl (cMd a cI u) U.heap ∧ va_D (va_A (cMd a cI R) sz) (cMd a cI u)) (va_A (cMd a cI R) sz)) 0 0 (va_A (cMd a cI R) sz) := by
  refine Met.ofW (cc := cX6_setReturn) (maxL := 5) (ret := (some .int)) (by decide) rfl ?_
  intro p e s m args below meth c s₁ B hml hv
  obtain ⟨rfl, hsz, hP, hK, hD0, hN⟩ := hv
  have hx := B.exec
  have hb := B.bytes
  have hr := B.returns
  have hts := atoms_spec (ws := wsX6_setReturn) B.pre
  have hown : s.vm.findClass RX6 = some m.cls := findClass_of_methodNamed B.named
  have hlocks := B.notSynchronized
  subst hsz
  have hD := hD0.self (sz := s.heap.size)
  have hA : ∀ q : Nat, s.heap.size ≤ q → (va_A (cMd a cI R) s.heap.size) q := fun q h => Or.inr h
  have hS : va_S (va_A (cMd a cI R) s.heap.size) s.heap s.heap [] := va_S.rf
  have hin6 : ∀ w ∈ wsX60, w ∈ wsX6_setReturn := fun _ h => List.mem_cons_of_mem _ (List.mem_append_right _ h)
  have hl := lv_entry [.ref (a 0), .int p1, .int p2] (n := 5) (Nat.le_of_ble_eq_true rfl)
  rw [lg_entry_eq]
  generalize (lg_sl [.ref (a 0), .int p1, .int p2] ++ List.replicate (5 - (lg_sl [.ref (a 0), .int p1, .int p2]).length) Slot.unset).toArray = ls at hl ⊢
  have hl : lv_has ls 5 [(0, .ref (a 0)), (1, .int p1), (2, .int p2)] := hl
  obtain ⟨R0, eR⟩ : ∃ z, z = f_X6_setReturn R p1 p2 := ⟨_, rfl⟩
  have hR := eR
  rw [f_X6_setReturn] at hR
  refine lv_aload_n hx hb dX6_setReturn_0 rfl (lv_at hl 0 rfl) ?_
  refine lv_iconst (v := 0) hx hb dX6_setReturn_1 (by decide) ?_
  refine va_put (D := (dC, dI)) (ci := 6) (v := .int 0) (ty := .int) (C := RX6) (T := TX6) (N := 15) hx hb hts hin6 tyX6 tyX6_ok nmX6 hown hK hP hD hS 0 rfl rfl 0 (by decide) (hts (.fieldLink RX6 28 "FeedDeskModel" "thrown" "I") (List.mem_of_getElem? (i := 1) rfl)) (fun _ h9 => h9) rfl (by decide +kernel) rfl rfl (Nat.le_of_ble_eq_true rfl) dX6_setReturn_2 (fun H1 locs hP hD hS => ?_)
  have hP : va_P (dC, dI) vwCl (cMd a cI (sU R 6 0 0)) H1 := hP
  have hD : va_D (va_A (cMd a cI R) s.heap.size) (cMd a cI (sU R 6 0 0)) := hD
  obtain ⟨Rn2, eRn2⟩ : ∃ z : SR, z = sU R 6 0 0 := ⟨_, rfl⟩
  rw [sLet_eq, ← eRn2] at hR
  rw [← eRn2] at hP hD
  have ohv3 : vp_in (Rn2 6 1) 6 := (by rw [eRn2]; exact ohv)
  have hI4 : RA Rn2 := (by rw [eRn2]; exact hI)
  have hs5 : RS Rn2 := (by rw [eRn2]; exact hs)
  refine lv_iload_n hx hb dX6_setReturn_5 rfl (lv_at hl 1 rfl) ?_
  have hFc : ∀ q : Nat, va_A [] H1.size q → (va_A (cMd a cI R) s.heap.size) q := roF hS hA
  refine va_calli (va_runS (As := [.int p1]) (rest := []) ⟨hx, hb, hml, hown, hts⟩ (c_X6_isFour l dC dI cI cC cS H1.size p1) (va_cwS 1 hts gX6_setReturn_X6_isFour rfl rfl rfl (by decide +kernel) ⟨Nat.le_of_ble_eq_true rfl, Nat.le_of_ble_eq_true rfl⟩) (pS hK (va_P_nil) (va_D_nil) hN) rfl rfl hl.1 rfl (lv_room (Nat.le_of_ble_eq_true rfl)) dX6_setReturn_6 ⟨Nat.le_of_ble_eq_true rfl, Nat.le_of_ble_eq_true rfl⟩) hS (fun q _ h => hFc q h) hFc (fun r_6 u_6 t_6 H7 locs ht hvm hw hB hz1 hk1 hS => ?_)
  obtain ⟨hw, hre8⟩ := hw
  subst hw
  have hP := ro_keep hP hk1
  refine lv_if_eq (tgt := 22) hx hb dX6_setReturn_9 (by decide) (fun c9 => ?_) (fun c9 => ?_)
  · rw [if_pos c9] at hR
    refine lv_iconst (v := (-1)) hx hb dX6_setReturn_22 (by decide) ?_
    exact W.iret (v := (-1)) hx hb hr (fun t ht hWw => ⟨⟨(-1), Rn2, rfl, ⟨hR.symm.trans eR, hI4, hs5⟩, by rw [ht]; exact hP, hD⟩, hS.F ht⟩) hS.2.2 dX6_setReturn_23
  · rw [if_neg c9] at hR
    obtain ⟨ip1, hip1, ep1⟩ := vp_in_of (four_vp c9) (by decide)
    refine lv_iload_n hx hb dX6_setReturn_12 rfl (lv_at hl 2 rfl) ?_
    refine lv_iconst (v := (-1)) hx hb dX6_setReturn_13 (by decide) ?_
    refine lv_bipush (v := 11) hx hb dX6_setReturn_14 (by decide) ?_
    have hFc : ∀ q : Nat, va_A [] H7.size q → (va_A (cMd a cI R) s.heap.size) q := roF hS hA
    refine va_calli (va_runS (As := [.int p2, .int (-1), .int 11]) (rest := []) ⟨hx, hb, hml, hown, hts⟩ (c_X6_in l dC dI cI cC cS H7.size p2 (-1) 11) (va_cwS 3 hts gX6_setReturn_X6_in rfl rfl rfl (by decide +kernel) ⟨Nat.le_of_ble_eq_true rfl, Nat.le_of_ble_eq_true rfl⟩) (pS hK (va_P_nil) (va_D_nil) hN) rfl rfl hl.1 rfl (lv_room (Nat.le_of_ble_eq_true rfl)) dX6_setReturn_16 ⟨Nat.le_of_ble_eq_true rfl, Nat.le_of_ble_eq_true rfl⟩) hS (fun q _ h => hFc q h) hFc (fun r_10 u_10 t_10 H11 locs ht hvm hw hB hz1 hk1 hS => ?_)
    obtain ⟨hw, hre12⟩ := hw
    subst hw
    have hP := ro_keep hP hk1
    refine lv_if_ne (tgt := 24) hx hb dX6_setReturn_19 (by decide) (fun c13 => ?_) (fun c13 => ?_)
    · rw [if_neg c13] at hR
      refine lv_iload_n hx hb dX6_setReturn_24 rfl (lv_at hl 2 rfl) ?_
      refine lv_iconst (v := (-1)) hx hb dX6_setReturn_25 (by decide) ?_
      refine lv_icmp_ne (tgt := 34) hx hb dX6_setReturn_26 (by decide) (fun c14 => ?_) (fun c14 => ?_)
      · rw [if_neg c14] at hR
        refine lv_aload_n hx hb dX6_setReturn_34 rfl (lv_at hl 0 rfl) ?_
        refine lv_iload_n hx hb dX6_setReturn_35 rfl (lv_at hl 2 rfl) ?_
        have hPc : va_P (dC, dI) vwCl (cMd a cI Rn2) H11 := hP.sub [0, 1, 2, 3, 4, 5, 6] rfl
        have hDc : va_D (va_A (cMd a cI R) s.heap.size) (cMd a cI Rn2) := hD.sub [0, 1, 2, 3, 4, 5, 6] (by decide) rfl
        have hFc : ∀ q : Nat, va_A [] H11.size q → (va_A (cMd a cI R) s.heap.size) q := roF hS hA
        refine va_calli (va_runV (As := [.int p2]) (rest := []) ⟨hx, hb, hml, hown, hts⟩ (c_X6_backInto l dC dI cI cC cS a Rn2 H11.size p2) (cwV 1 hts gX6_setReturn_X6_backInto rfl rfl rfl (by decide +kernel) ⟨Nat.le_of_ble_eq_true rfl, Nat.le_of_ble_eq_true rfl⟩) (pV (q0 := 0) hK hPc hDc hN rfl rfl) rfl rfl hl.1 rfl (lv_room (Nat.le_of_ble_eq_true rfl)) dX6_setReturn_36 ⟨Nat.le_of_ble_eq_true rfl, Nat.le_of_ble_eq_true rfl⟩) hS (fun q _ h => hFc q h) hFc (fun r_15 u_15 t_15 H16 locs ht hvm hw hB hz1 hk1 hS => ?_)
        obtain ⟨hw, hre17⟩ := hw
        subst hw
        have hP := ro_keep hP hk1
        refine lv_istore_n (lv' := [(3, .int (f_X6_backInto Rn2 p2)), (0, .ref (a 0)), (1, .int p1), (2, .int p2)]) hx hb dX6_setReturn_39 rfl hl (by decide) rfl (fun ls hl => ?_)
        refine lv_iload_n hx hb dX6_setReturn_40 rfl (lv_at hl 0 rfl) ?_
        refine lv_bipush (v := (-99)) hx hb dX6_setReturn_41 (by decide) ?_
        refine lv_icmp_eq (tgt := 54) hx hb dX6_setReturn_43 (by decide) (fun c18 => ?_) (fun c18 => ?_)
        · rw [if_pos c18] at hR
          refine lv_aload_n hx hb dX6_setReturn_54 rfl (lv_at hl 1 rfl) ?_
          have hPc : va_P (dC, dI) vwCl (cMd a cI Rn2) H16 := hP.sub [0, 1, 2, 3, 4, 5, 6] rfl
          have hDc : va_D (va_A (cMd a cI R) s.heap.size) (cMd a cI Rn2) := hD.sub [0, 1, 2, 3, 4, 5, 6] (by decide) rfl
          have hFc : ∀ q : Nat, va_A (cMd a cI Rn2) H16.size q → (va_A (cMd a cI R) s.heap.size) q := va_free hD hS hA [0, 1, 2, 3, 4, 5, 6] rfl
          refine va_callv (va_runV (As := []) (rest := []) ⟨hx, hb, hml, hown, hts⟩ (c_X6_act l dC dI cI cC cS a Rn2 H16.size ohv3) (cwV 0 hts gX6_setReturn_X6_act rfl rfl rfl (by decide +kernel) ⟨Nat.le_of_ble_eq_true rfl, Nat.le_of_ble_eq_true rfl⟩) (pV (q0 := 0) hK hPc hDc hN rfl rfl) rfl rfl hl.1 rfl (lv_room (Nat.le_of_ble_eq_true rfl)) dX6_setReturn_55 ⟨Nat.le_of_ble_eq_true rfl, Nat.le_of_ble_eq_true rfl⟩) hS (fun q _ h => hFc q h) hFc (fun u_19 t_19 H20 locs ht hvm hw hB hz1 hk1 hS => ?_)
          obtain ⟨hw, hens21, hens22, hens23, hens24⟩ := hw
          obtain ⟨hP1, hD1⟩ := hB
          rw [ht] at hP1
          subst hw
          obtain ⟨hP, hD⟩ := va_join (wc := cMd a cI Rn2) (wr := []) (w1 := cMd a cI (f_X6_act Rn2)) hP hD [0, 1, 2, 3, 4, 5, 6] [] rfl rfl (by decide) (by decide) hk1 hFc hP1 hD1
          have hP : va_P (dC, dI) vwCl (cMd a cI (f_X6_act Rn2)) H20 := hP.sub [0, 1, 2, 3, 4, 5, 6] rfl
          have hD : va_D (va_A (cMd a cI R) s.heap.size) (cMd a cI (f_X6_act Rn2)) := hD.sub [0, 1, 2, 3, 4, 5, 6] (by decide) rfl
          obtain ⟨Rn25, eRn25⟩ : ∃ z : SR, z = (f_X6_act Rn2) := ⟨_, rfl⟩
          rw [sLet_eq, ← eRn25] at hR
          rw [← eRn25] at hP hD
          have hI27 : RA Rn25 := (by rw [eRn25]; exact ra_eq hI4 hens21)
          have hs28 : RS Rn25 := (by rw [eRn25]; exact rs_eq0 hs5 hens21)
          refine lv_aload_n hx hb dX6_setReturn_58 rfl (lv_at hl 1 rfl) ?_
          refine va_get (D := (dC, dI)) (ci := 6) (v := .ref (a 1)) (C := RX6) (T := TX6) (N := 15) hx hb hts hin6 hown hK hP 0 rfl rfl 1 (by decide) (hts (.fieldLink RX6 7 "FeedDeskModel" "s" "[I") (List.mem_of_getElem? (i := 2) rfl)) (fun _ h9 => h9) rfl dX6_setReturn_59 ?_
          refine lv_bipush (v := 84) hx hb dX6_setReturn_62 (by decide) ?_
          refine lv_iload_n hx hb dX6_setReturn_64 rfl (lv_at hl 2 rfl) ?_
          refine lv_iadd hx hb dX6_setReturn_65 ?_
          refine va_iald (f := Rn25 0) hx hb hK hP 1 0 rfl rfl (by rw [ep1]; exact vp_of_B (ix_16 ip1 hip1)) dX6_setReturn_66 ?_
          refine lv_istore (lv' := [(4, .int (Rn25 0 (84 + p1).toNatClampNeg)), (3, .int (f_X6_backInto Rn2 p2)), (0, .ref (a 0)), (1, .int p1), (2, .int p2)]) hx hb dX6_setReturn_67 hl (by decide) rfl (fun ls hl => ?_)
          refine lv_aload_n hx hb dX6_setReturn_69 rfl (lv_at hl 2 rfl) ?_
          refine va_get (D := (dC, dI)) (ci := 6) (v := .ref (a 1)) (C := RX6) (T := TX6) (N := 15) hx hb hts hin6 hown hK hP 0 rfl rfl 1 (by decide) (hts (.fieldLink RX6 7 "FeedDeskModel" "s" "[I") (List.mem_of_getElem? (i := 2) rfl)) (fun _ h9 => h9) rfl dX6_setReturn_70 ?_
          refine lv_bipush (v := 84) hx hb dX6_setReturn_73 (by decide) ?_
          refine lv_iload_n hx hb dX6_setReturn_75 rfl (lv_at hl 3 rfl) ?_
          refine lv_iadd hx hb dX6_setReturn_76 ?_
          refine lv_iload_n hx hb dX6_setReturn_77 rfl (lv_at hl 4 rfl) ?_
          refine va_iast (f := Rn25 0) hx hb hK hP hD hS 1 0 rfl rfl (by rw [ep1]; exact vp_of_B (ix_16 ip1 hip1)) dX6_setReturn_78 (fun H29 locs hP hD hS => ?_)
          have hP : va_P (dC, dI) vwCl (cMd a cI (sU Rn25 0 (84 + p1).toNatClampNeg p2)) H29 := hP
          have hD : va_D (va_A (cMd a cI R) s.heap.size) (cMd a cI (sU Rn25 0 (84 + p1).toNatClampNeg p2)) := hD
          obtain ⟨Rn30, eRn30⟩ : ∃ z : SR, z = sU Rn25 0 (84 + p1).toNatClampNeg p2 := ⟨_, rfl⟩
          rw [sLet_eq, ← eRn30] at hR
          rw [← eRn30] at hP hD
          have hI32 : RA Rn30 := (by rw [eRn30]; exact ra_ret hI27 (in_m1 c13))
          have hs33 : RS Rn30 := (by rw [eRn30]; exact rs_s hs28 (by rw [ep1]; exact ok_46 ip1 hip1))
          refine lv_iload hx hb dX6_setReturn_79 (lv_at hl 0 rfl) ?_
          exact W.iret (v := Rn25 0 (84 + p1).toNatClampNeg) hx hb hr (fun t ht hWw => ⟨⟨Rn25 0 (84 + p1).toNatClampNeg, Rn30, rfl, ⟨hR.symm.trans eR, hI32, hs33⟩, by rw [ht]; exact hP, hD⟩, hS.F ht⟩) hS.2.2 dX6_setReturn_81
        · rw [if_neg c18] at hR
          refine lv_iload_n hx hb dX6_setReturn_46 rfl (lv_at hl 0 rfl) ?_
          refine lv_iload_n hx hb dX6_setReturn_47 rfl (lv_at hl 2 rfl) ?_
          refine lv_icmp_eq (tgt := 54) hx hb dX6_setReturn_48 (by decide) (fun c34 => ?_) (fun c34 => ?_)
          · rw [if_pos c34] at hR
            refine lv_aload_n hx hb dX6_setReturn_54 rfl (lv_at hl 1 rfl) ?_
            have hPc : va_P (dC, dI) vwCl (cMd a cI Rn2) H16 := hP.sub [0, 1, 2, 3, 4, 5, 6] rfl
            have hDc : va_D (va_A (cMd a cI R) s.heap.size) (cMd a cI Rn2) := hD.sub [0, 1, 2, 3, 4, 5, 6] (by decide) rfl
            have hFc : ∀ q : Nat, va_A (cMd a cI Rn2) H16.size q → (va_A (cMd a cI R) s.heap.size) q := va_free hD hS hA [0, 1, 2, 3, 4, 5, 6] rfl
            refine va_callv (va_runV (As := []) (rest := []) ⟨hx, hb, hml, hown, hts⟩ (c_X6_act l dC dI cI cC cS a Rn2 H16.size ohv3) (cwV 0 hts gX6_setReturn_X6_act rfl rfl rfl (by decide +kernel) ⟨Nat.le_of_ble_eq_true rfl, Nat.le_of_ble_eq_true rfl⟩) (pV (q0 := 0) hK hPc hDc hN rfl rfl) rfl rfl hl.1 rfl (lv_room (Nat.le_of_ble_eq_true rfl)) dX6_setReturn_55 ⟨Nat.le_of_ble_eq_true rfl, Nat.le_of_ble_eq_true rfl⟩) hS (fun q _ h => hFc q h) hFc (fun u_35 t_35 H36 locs ht hvm hw hB hz1 hk1 hS => ?_)
            obtain ⟨hw, hens37, hens38, hens39, hens40⟩ := hw
            obtain ⟨hP1, hD1⟩ := hB
            rw [ht] at hP1
            subst hw
            obtain ⟨hP, hD⟩ := va_join (wc := cMd a cI Rn2) (wr := []) (w1 := cMd a cI (f_X6_act Rn2)) hP hD [0, 1, 2, 3, 4, 5, 6] [] rfl rfl (by decide) (by decide) hk1 hFc hP1 hD1
            have hP : va_P (dC, dI) vwCl (cMd a cI (f_X6_act Rn2)) H36 := hP.sub [0, 1, 2, 3, 4, 5, 6] rfl
            have hD : va_D (va_A (cMd a cI R) s.heap.size) (cMd a cI (f_X6_act Rn2)) := hD.sub [0, 1, 2, 3, 4, 5, 6] (by decide) rfl
            obtain ⟨Rn41, eRn41⟩ : ∃ z : SR, z = (f_X6_act Rn2) := ⟨_, rfl⟩
            rw [sLet_eq, ← eRn41] at hR
            rw [← eRn41] at hP hD
            have hI43 : RA Rn41 := (by rw [eRn41]; exact ra_eq hI4 hens37)
            have hs44 : RS Rn41 := (by rw [eRn41]; exact rs_eq0 hs5 hens37)
            refine lv_aload_n hx hb dX6_setReturn_58 rfl (lv_at hl 1 rfl) ?_
            refine va_get (D := (dC, dI)) (ci := 6) (v := .ref (a 1)) (C := RX6) (T := TX6) (N := 15) hx hb hts hin6 hown hK hP 0 rfl rfl 1 (by decide) (hts (.fieldLink RX6 7 "FeedDeskModel" "s" "[I") (List.mem_of_getElem? (i := 2) rfl)) (fun _ h9 => h9) rfl dX6_setReturn_59 ?_
            refine lv_bipush (v := 84) hx hb dX6_setReturn_62 (by decide) ?_
            refine lv_iload_n hx hb dX6_setReturn_64 rfl (lv_at hl 2 rfl) ?_
            refine lv_iadd hx hb dX6_setReturn_65 ?_
            refine va_iald (f := Rn41 0) hx hb hK hP 1 0 rfl rfl (by rw [ep1]; exact vp_of_B (ix_16 ip1 hip1)) dX6_setReturn_66 ?_
            refine lv_istore (lv' := [(4, .int (Rn41 0 (84 + p1).toNatClampNeg)), (3, .int (f_X6_backInto Rn2 p2)), (0, .ref (a 0)), (1, .int p1), (2, .int p2)]) hx hb dX6_setReturn_67 hl (by decide) rfl (fun ls hl => ?_)
            refine lv_aload_n hx hb dX6_setReturn_69 rfl (lv_at hl 2 rfl) ?_
            refine va_get (D := (dC, dI)) (ci := 6) (v := .ref (a 1)) (C := RX6) (T := TX6) (N := 15) hx hb hts hin6 hown hK hP 0 rfl rfl 1 (by decide) (hts (.fieldLink RX6 7 "FeedDeskModel" "s" "[I") (List.mem_of_getElem? (i := 2) rfl)) (fun _ h9 => h9) rfl dX6_setReturn_70 ?_
            refine lv_bipush (v := 84) hx hb dX6_setReturn_73 (by decide) ?_
            refine lv_iload_n hx hb dX6_setReturn_75 rfl (lv_at hl 3 rfl) ?_
            refine lv_iadd hx hb dX6_setReturn_76 ?_
            refine lv_iload_n hx hb dX6_setReturn_77 rfl (lv_at hl 4 rfl) ?_
            refine va_iast (f := Rn41 0) hx hb hK hP hD hS 1 0 rfl rfl (by rw [ep1]; exact vp_of_B (ix_16 ip1 hip1)) dX6_setReturn_78 (fun H45 locs hP hD hS => ?_)
            have hP : va_P (dC, dI) vwCl (cMd a cI (sU Rn41 0 (84 + p1).toNatClampNeg p2)) H45 := hP
            have hD : va_D (va_A (cMd a cI R) s.heap.size) (cMd a cI (sU Rn41 0 (84 + p1).toNatClampNeg p2)) := hD
            obtain ⟨Rn46, eRn46⟩ : ∃ z : SR, z = sU Rn41 0 (84 + p1).toNatClampNeg p2 := ⟨_, rfl⟩
            rw [sLet_eq, ← eRn46] at hR
            rw [← eRn46] at hP hD
            have hI48 : RA Rn46 := (by rw [eRn46]; exact ra_ret hI43 (in_m1 c13))
            have hs49 : RS Rn46 := (by rw [eRn46]; exact rs_s hs44 (by rw [ep1]; exact ok_46 ip1 hip1))
            refine lv_iload hx hb dX6_setReturn_79 (lv_at hl 0 rfl) ?_
            exact W.iret (v := Rn41 0 (84 + p1).toNatClampNeg) hx hb hr (fun t ht hWw => ⟨⟨Rn41 0 (84 + p1).toNatClampNeg, Rn46, rfl, ⟨hR.symm.trans eR, hI48, hs49⟩, by rw [ht]; exact hP, hD⟩, hS.F ht⟩) hS.2.2 dX6_setReturn_81
          · rw [if_neg c34] at hR
            refine lv_bipush (v := (-2)) hx hb dX6_setReturn_51 (by decide) ?_
            exact W.iret (v := (-2)) hx hb hr (fun t ht hWw => ⟨⟨(-2), Rn2, rfl, ⟨hR.symm.trans eR, hI4, hs5⟩, by rw [ht]; exact hP, hD⟩, hS.F ht⟩) hS.2.2 dX6_setReturn_53
      · rw [if_pos c14] at hR
        refine lv_bipush (v := (-99)) hx hb dX6_setReturn_29 (by decide) ?_
        refine lv_goto (tgt := 39) hx hb dX6_setReturn_31 (by decide) ?_
        refine lv_istore_n (lv' := [(3, .int (-99)), (0, .ref (a 0)), (1, .int p1), (2, .int p2)]) hx hb dX6_setReturn_39 rfl hl (by decide) rfl (fun ls hl => ?_)
        refine lv_iload_n hx hb dX6_setReturn_40 rfl (lv_at hl 0 rfl) ?_
        refine lv_bipush (v := (-99)) hx hb dX6_setReturn_41 (by decide) ?_
        refine lv_icmp_eq (tgt := 54) hx hb dX6_setReturn_43 (by decide) (fun c50 => ?_) (fun c50 => ?_)
        · refine lv_aload_n hx hb dX6_setReturn_54 rfl (lv_at hl 1 rfl) ?_
          have hPc : va_P (dC, dI) vwCl (cMd a cI Rn2) H11 := hP.sub [0, 1, 2, 3, 4, 5, 6] rfl
          have hDc : va_D (va_A (cMd a cI R) s.heap.size) (cMd a cI Rn2) := hD.sub [0, 1, 2, 3, 4, 5, 6] (by decide) rfl
          have hFc : ∀ q : Nat, va_A (cMd a cI Rn2) H11.size q → (va_A (cMd a cI R) s.heap.size) q := va_free hD hS hA [0, 1, 2, 3, 4, 5, 6] rfl
          refine va_callv (va_runV (As := []) (rest := []) ⟨hx, hb, hml, hown, hts⟩ (c_X6_act l dC dI cI cC cS a Rn2 H11.size ohv3) (cwV 0 hts gX6_setReturn_X6_act rfl rfl rfl (by decide +kernel) ⟨Nat.le_of_ble_eq_true rfl, Nat.le_of_ble_eq_true rfl⟩) (pV (q0 := 0) hK hPc hDc hN rfl rfl) rfl rfl hl.1 rfl (lv_room (Nat.le_of_ble_eq_true rfl)) dX6_setReturn_55 ⟨Nat.le_of_ble_eq_true rfl, Nat.le_of_ble_eq_true rfl⟩) hS (fun q _ h => hFc q h) hFc (fun u_51 t_51 H52 locs ht hvm hw hB hz1 hk1 hS => ?_)
          obtain ⟨hw, hens53, hens54, hens55, hens56⟩ := hw
          obtain ⟨hP1, hD1⟩ := hB
          rw [ht] at hP1
          subst hw
          obtain ⟨hP, hD⟩ := va_join (wc := cMd a cI Rn2) (wr := []) (w1 := cMd a cI (f_X6_act Rn2)) hP hD [0, 1, 2, 3, 4, 5, 6] [] rfl rfl (by decide) (by decide) hk1 hFc hP1 hD1
          have hP : va_P (dC, dI) vwCl (cMd a cI (f_X6_act Rn2)) H52 := hP.sub [0, 1, 2, 3, 4, 5, 6] rfl
          have hD : va_D (va_A (cMd a cI R) s.heap.size) (cMd a cI (f_X6_act Rn2)) := hD.sub [0, 1, 2, 3, 4, 5, 6] (by decide) rfl
          obtain ⟨Rn57, eRn57⟩ : ∃ z : SR, z = (f_X6_act Rn2) := ⟨_, rfl⟩
          rw [sLet_eq, ← eRn57] at hR
          rw [← eRn57] at hP hD
          have hI59 : RA Rn57 := (by rw [eRn57]; exact ra_eq hI4 hens53)
          have hs60 : RS Rn57 := (by rw [eRn57]; exact rs_eq0 hs5 hens53)
          refine lv_aload_n hx hb dX6_setReturn_58 rfl (lv_at hl 1 rfl) ?_
          refine va_get (D := (dC, dI)) (ci := 6) (v := .ref (a 1)) (C := RX6) (T := TX6) (N := 15) hx hb hts hin6 hown hK hP 0 rfl rfl 1 (by decide) (hts (.fieldLink RX6 7 "FeedDeskModel" "s" "[I") (List.mem_of_getElem? (i := 2) rfl)) (fun _ h9 => h9) rfl dX6_setReturn_59 ?_
          refine lv_bipush (v := 84) hx hb dX6_setReturn_62 (by decide) ?_
          refine lv_iload_n hx hb dX6_setReturn_64 rfl (lv_at hl 2 rfl) ?_
          refine lv_iadd hx hb dX6_setReturn_65 ?_
          refine va_iald (f := Rn57 0) hx hb hK hP 1 0 rfl rfl (by rw [ep1]; exact vp_of_B (ix_16 ip1 hip1)) dX6_setReturn_66 ?_
          refine lv_istore (lv' := [(4, .int (Rn57 0 (84 + p1).toNatClampNeg)), (3, .int (-99)), (0, .ref (a 0)), (1, .int p1), (2, .int p2)]) hx hb dX6_setReturn_67 hl (by decide) rfl (fun ls hl => ?_)
          refine lv_aload_n hx hb dX6_setReturn_69 rfl (lv_at hl 2 rfl) ?_
          refine va_get (D := (dC, dI)) (ci := 6) (v := .ref (a 1)) (C := RX6) (T := TX6) (N := 15) hx hb hts hin6 hown hK hP 0 rfl rfl 1 (by decide) (hts (.fieldLink RX6 7 "FeedDeskModel" "s" "[I") (List.mem_of_getElem? (i := 2) rfl)) (fun _ h9 => h9) rfl dX6_setReturn_70 ?_
          refine lv_bipush (v := 84) hx hb dX6_setReturn_73 (by decide) ?_
          refine lv_iload_n hx hb dX6_setReturn_75 rfl (lv_at hl 3 rfl) ?_
          refine lv_iadd hx hb dX6_setReturn_76 ?_
          refine lv_iload_n hx hb dX6_setReturn_77 rfl (lv_at hl 4 rfl) ?_
          refine va_iast (f := Rn57 0) hx hb hK hP hD hS 1 0 rfl rfl (by rw [ep1]; exact vp_of_B (ix_16 ip1 hip1)) dX6_setReturn_78 (fun H61 locs hP hD hS => ?_)
          have hP : va_P (dC, dI) vwCl (cMd a cI (sU Rn57 0 (84 + p1).toNatClampNeg p2)) H61 := hP
          have hD : va_D (va_A (cMd a cI R) s.heap.size) (cMd a cI (sU Rn57 0 (84 + p1).toNatClampNeg p2)) := hD
          obtain ⟨Rn62, eRn62⟩ : ∃ z : SR, z = sU Rn57 0 (84 + p1).toNatClampNeg p2 := ⟨_, rfl⟩
          rw [sLet_eq, ← eRn62] at hR
          rw [← eRn62] at hP hD
          have hI64 : RA Rn62 := (by rw [eRn62]; exact ra_ret hI59 (in_m1 c13))
          have hs65 : RS Rn62 := (by rw [eRn62]; exact rs_s hs60 (by rw [ep1]; exact ok_46 ip1 hip1))
          refine lv_iload hx hb dX6_setReturn_79 (lv_at hl 0 rfl) ?_
          exact W.iret (v := Rn57 0 (84 + p1).toNatClampNeg) hx hb hr (fun t ht hWw => ⟨⟨Rn57 0 (84 + p1).toNatClampNeg, Rn62, rfl, ⟨hR.symm.trans eR, hI64, hs65⟩, by rw [ht]; exact hP, hD⟩, hS.F ht⟩) hS.2.2 dX6_setReturn_81
        · exact absurd c50 (by decide)
    · rw [if_pos c13] at hR
      refine lv_iconst (v := (-1)) hx hb dX6_setReturn_22 (by decide) ?_
      exact W.iret (v := (-1)) hx hb hr (fun t ht hWw => ⟨⟨(-1), Rn2, rfl, ⟨hR.symm.trans eR, hI4, hs5⟩, by rw [ht]; exact hP, hD⟩, hS.F ht⟩) hS.2.2 dX6_setReturn_23
