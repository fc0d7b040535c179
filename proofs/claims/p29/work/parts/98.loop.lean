set_option maxHeartbeats 8000000 in
set_option maxRecDepth 100000 in
theorem whole_start {p : Program} {e : Env} {s : State} {m : MethodId} {below : List Frame} {meth : Method} {c : Code} (l : Launch) (hflags : l.flags = flags0) {b L : Nat} {xs : Nat → Int32} (hL : L ≤ 260) (C0 : lw_At p s m meth c b L xs) : W p l e room_1 s m #[Value.ref b] below meth c s.heap [] 0 0 (lw_Z below #[Value.ref b] s) (entryFrame m ([Value.ref b] : List Value).toArray 14) := by
  obtain ⟨hx, hb, hr, hml, hown, hts0, hX, hbl, hlocks, hgv⟩ := id C0
  have hown : s.vm.findClass RL = some m.cls := hown
  have hts : ∀ w ∈ wsL_law, w.before #[Value.ref b] s = true := fun w h => hts0 w (wsL_law_in w h)
  have hA : ∀ q : Nat, s.heap.size ≤ q → (fun q : Nat => s.heap.size ≤ q) q := fun _ h => h
  have hbA : ¬ (fun q : Nat => s.heap.size ≤ q) b := Nat.not_le.mpr hbl
  have hZ : ∀ q : Nat, q < s.heap.size → ¬ (fun q : Nat => s.heap.size ≤ q) q := fun q h => Nat.not_le.mpr h
  obtain ⟨c0, iS0, hKn0⟩ := u_known (C := RX0) (T := TX0) (N := 5) (n := 5) hts0 inX0 (hts0 (.instantiable RX0 5) (by decide +kernel))
  obtain ⟨c1, iS1, hKn1⟩ := u_known (C := RX1) (T := TX1) (N := 3) (n := 3) hts0 inX1 (hts0 (.instantiable RX1 3) (by decide +kernel))
  obtain ⟨c2, iS2, hKn2⟩ := u_known (C := RX2) (T := TX2) (N := 3) (n := 3) hts0 inX2 (hts0 (.instantiable RX2 3) (by decide +kernel))
  obtain ⟨c3, iS3, hKn3⟩ := u_known (C := RX3) (T := TX3) (N := 4) (n := 4) hts0 inX3 (hts0 (.instantiable RX3 4) (by decide +kernel))
  obtain ⟨c4, iS4, hKn4⟩ := u_known (C := RX4) (T := TX4) (N := 18) (n := 18) hts0 inX4 (hts0 (.instantiable RX4 18) (by decide +kernel))
  obtain ⟨c5, iS5, hKn5⟩ := u_known (C := RX5) (T := TX5) (N := 5) (n := 5) hts0 inX5 (hts0 (.instantiable RX5 5) (by decide +kernel))
  obtain ⟨dC, dI, hKc⟩ : ∃ (dC : Nat → ClassId) (dI : Nat → Nat → Nat), ∀ (k : Nat) (q : vw_C), vwCl[k]? = some q → u_Kn s q.1 q.2.1 q.2.2 (dC k) (dI k) := by
    refine ⟨fun k => if k = 0 then c0 else if k = 1 then c1 else if k = 2 then c2 else if k = 3 then c3 else if k = 4 then c4 else c5, fun k => if k = 0 then iS0 else if k = 1 then iS1 else if k = 2 then iS2 else if k = 3 then iS3 else if k = 4 then iS4 else iS5, ?_⟩
    intro k q hq
    match k, hq with
    | 0, hq => cases hq; exact hKn0
    | 1, hq => cases hq; exact hKn1
    | 2, hq => cases hq; exact hKn2
    | 3, hq => cases hq; exact hKn3
    | 4, hq => cases hq; exact hKn4
    | 5, hq => cases hq; exact hKn5
    | k + 6, hq => simp [vwCl] at hq
  obtain ⟨cI, kI, compI, f1, f2, f3⟩ := Cond.arrayClass_spec (hts0 (.arrayClass .int) (by decide +kernel))
  obtain ⟨cC, kC, compC, g1, g2, g3⟩ := Cond.arrayClass_spec (hts0 (.arrayClass .char) (by decide +kernel))
  have hO : va_AO RX4 s := va_AO.of (hts0 (.arrayOver (.object RX4)) (by decide +kernel))
  obtain ⟨compS, cS, kS, z1, z2, z3, z4, z5⟩ := Cond.arrayOver_spec hO
  have hK : va_K (dC, dI) vwCl (tyL cI cC cS) s := by
    refine ⟨hKc, fun k q hk => ?_⟩
    match k, hk with
    | 0, hk => cases hk; exact ⟨fun n z => ⟨fun k h => (by cases h), kI, f2, compI, f3⟩, f1⟩
    | 1, hk => cases hk; exact ⟨fun n z => ⟨fun k h => (by cases h), kC, g2, compC, g3⟩, g1⟩
    | 2, hk => cases hk; exact ⟨fun n z => ⟨fun k h => (by cases h), kS, z3, compS, z4⟩, kS, compS, z3, z4, z1, z5⟩
    | k + 3, hk => simp [tyL] at hk
  have hN : ENV s := by
    intro w hw
    have hin : ∀ w ∈ nestW, w ∈ lw_tbl := by decide +kernel
    rcases nestW_kind w hw with ⟨_, _, _, _, rfl⟩ | ⟨_, _, _, _, _, _, rfl⟩ <;> exact va_Nw.of rfl (hts0 _ (hin _ hw))
  have hgf := flat_of_before _ hgv
  have hel1 : ∀ j : Nat, j < 5 → (Term.elem (.static "FeedDesk" "CHANNEL_MOST" "[I") (.int (Int32.ofNat j))).eval #[Value.ref b] s none [] s = some (.int (chI j)) := by
    intro j hj
    rcases (show j = 0 ∨ j = 1 ∨ j = 2 ∨ j = 3 ∨ j = 4 by omega) with rfl | rfl | rfl | rfl | rfl
    · exact va_eqt (hgf (.eq (.elem (.static "FeedDesk" "CHANNEL_MOST" "[I") (.int 0)) (.int 1000)) (by decide +kernel))
    · exact va_eqt (hgf (.eq (.elem (.static "FeedDesk" "CHANNEL_MOST" "[I") (.int 1)) (.int 100)) (by decide +kernel))
    · exact va_eqt (hgf (.eq (.elem (.static "FeedDesk" "CHANNEL_MOST" "[I") (.int 2)) (.int 1)) (by decide +kernel))
    · exact va_eqt (hgf (.eq (.elem (.static "FeedDesk" "CHANNEL_MOST" "[I") (.int 3)) (.int 1)) (by decide +kernel))
    · exact va_eqt (hgf (.eq (.elem (.static "FeedDesk" "CHANNEL_MOST" "[I") (.int 4)) (.int 15)) (by decide +kernel))
  obtain ⟨t1, ht1, hT1⟩ := va_Tof (N := 5) (f := fun j => .int (chI j)) (A := (fun q : Nat => s.heap.size ≤ q)) (by decide) (hgf (.arrayOf (.static "FeedDesk" "CHANNEL_MOST" "[I") .int) (by decide +kernel)) (va_eqt (hgf (.eq (.length (.static "FeedDesk" "CHANNEL_MOST" "[I")) (.int 5)) (by decide +kernel))) hel1 hZ
  have hZ1 : va_Z RX5 "CHANNEL_MOST" "[I" (.ref t1) (fun q : Nat => s.heap.size ≤ q) s s.heap := va_Zof (hts0 (.laysStatic RX5 "CHANNEL_MOST" "[I") (by decide +kernel)) (hts0 (.initialized RX5) (by decide +kernel)) ht1 hZ
  have hel2 : ∀ j : Nat, j < 2 → (Term.elem (.static "FeedDesk" "GROUP_MOST" "[I") (.int (Int32.ofNat j))).eval #[Value.ref b] s none [] s = some (.int (grI j)) := by
    intro j hj
    rcases (show j = 0 ∨ j = 1 by omega) with rfl | rfl
    · exact va_eqt (hgf (.eq (.elem (.static "FeedDesk" "GROUP_MOST" "[I") (.int 0)) (.int 100)) (by decide +kernel))
    · exact va_eqt (hgf (.eq (.elem (.static "FeedDesk" "GROUP_MOST" "[I") (.int 1)) (.int 1)) (by decide +kernel))
  obtain ⟨t2, ht2, hT2⟩ := va_Tof (N := 2) (f := fun j => .int (grI j)) (A := (fun q : Nat => s.heap.size ≤ q)) (by decide) (hgf (.arrayOf (.static "FeedDesk" "GROUP_MOST" "[I") .int) (by decide +kernel)) (va_eqt (hgf (.eq (.length (.static "FeedDesk" "GROUP_MOST" "[I")) (.int 2)) (by decide +kernel))) hel2 hZ
  have hZ2 : va_Z RX5 "GROUP_MOST" "[I" (.ref t2) (fun q : Nat => s.heap.size ≤ q) s s.heap := va_Zof (hts0 (.laysStatic RX5 "GROUP_MOST" "[I") (by decide +kernel)) (hts0 (.initialized RX5) (by decide +kernel)) ht2 hZ
  have hels : ∀ i : Nat, i < 1 → ∀ j : Nat, j < ([5] : List Nat).getD i 0 → (Cond.eq (.elem (.field (.string "FeedDesk$Patch" 59) "java/lang/String" "value" "[B") (.int (Int32.ofNat j))) (.int ((([[105, 102, 109, 115, 103]] : List (List Int32)).getD i []).getD j 0))).before #[Value.ref b] s = true := by
    intro i hi j hj
    rcases (show i = 0 by omega) with rfl
    have hj : j < 5 := hj
    rcases (show j = 0 ∨ j = 1 ∨ j = 2 ∨ j = 3 ∨ j = 4 by omega) with rfl | rfl | rfl | rfl | rfl
    · exact (hgf (.eq (.elem (.field (.string "FeedDesk$Patch" 59) "java/lang/String" "value" "[B") (.int 0)) (.int 105)) (by decide +kernel))
    · exact (hgf (.eq (.elem (.field (.string "FeedDesk$Patch" 59) "java/lang/String" "value" "[B") (.int 1)) (.int 102)) (by decide +kernel))
    · exact (hgf (.eq (.elem (.field (.string "FeedDesk$Patch" 59) "java/lang/String" "value" "[B") (.int 2)) (.int 109)) (by decide +kernel))
    · exact (hgf (.eq (.elem (.field (.string "FeedDesk$Patch" 59) "java/lang/String" "value" "[B") (.int 3)) (.int 115)) (by decide +kernel))
    · exact (hgf (.eq (.elem (.field (.string "FeedDesk$Patch" 59) "java/lang/String" "value" "[B") (.int 4)) (.int 103)) (by decide +kernel))
  obtain ⟨adK, adV, hSt, hSe⟩ := vk_Sof (args := #[Value.ref b]) (s := s) (N := 1) (tm := fun _ => (.string "FeedDesk$Patch" 59)) (len := [5]) (byt := [[105, 102, 109, 115, 103]]) (A := (fun q : Nat => s.heap.size ≤ q)) (fun i hi => by rcases (show i = 0 by omega) with rfl; decide) (fun i hi => by rcases (show i = 0 by omega) with rfl; exact (hgf (.exactly (.string "FeedDesk$Patch" 59) "java/lang/String") (by decide +kernel))) (fun i hi => by rcases (show i = 0 by omega) with rfl; exact (hgf (.eq (.field (.string "FeedDesk$Patch" 59) "java/lang/String" "coder" "B") (.int 0)) (by decide +kernel))) (fun i hi => by rcases (show i = 0 by omega) with rfl; exact (hgf (.arrayOf (.field (.string "FeedDesk$Patch" 59) "java/lang/String" "value" "[B") .byte) (by decide +kernel))) (fun i hi => by rcases (show i = 0 by omega) with rfl; exact (hgf (.eq (.length (.field (.string "FeedDesk$Patch" 59) "java/lang/String" "value" "[B")) (.int 5)) (by decide +kernel))) hels (fun i j hi hj h => absurd (by omega) h) hZ
  obtain ⟨y1, y2, y3, y4⟩ := hSt.1 0 (by decide)
  have hSR : vk_R RX2 59 "ifmsg" (adK 0) s := vk_R.of (hts0 (.stringRef RX2 59 "ifmsg") (by decide +kernel)) (hSe 0 (by decide))
  have hZs : va_Z "java/lang/String" "COMPACT_STRINGS" "Z" (.int 1) (fun q : Nat => s.heap.size ≤ q) s s.heap := va_Zof (hts0 (.laysStatic "java/lang/String" "COMPACT_STRINGS" "Z") (by decide +kernel)) (hts0 (.initialized "java/lang/String") (by decide +kernel)) (va_eqi (hgf (.eq (.static "java/lang/String" "COMPACT_STRINGS" "Z") (.int 1)) (by decide +kernel))) hZ
  have y5 : va_T .byte (adV 0) 5 (fun j => .int (ifI j)) (fun q : Nat => s.heap.size ≤ q) s s.heap := by
    obtain ⟨cell, w1, w2, w3, w4, w5, w6, w7⟩ := y4
    refine ⟨cell, w1, w2, w3, w4, w5, fun j hj => ?_, w7⟩
    rw [w6 j hj]
    rcases (show j = 0 ∨ j = 1 ∨ j = 2 ∨ j = 3 ∨ j = 4 by omega) with rfl | rfl | rfl | rfl | rfl <;> rfl
  have hT : STA (fun q : Nat => s.heap.size ≤ q) s s.heap := ⟨⟨t1, hZ1, hT1⟩, ⟨t2, hZ2, hT2⟩, ⟨adK 0, adV 0, ⟨y1, y2, y3, y5, hZs⟩, hSR⟩⟩
  have hS : va_S (fun q : Nat => s.heap.size ≤ q) s.heap s.heap [] := va_S.rf
  have hP : va_P (dC, dI) vwCl [] s.heap := va_P_nil
  have hD : va_D (fun q : Nat => s.heap.size ≤ q) [] := ⟨fun i j p q h => by simp at h, fun k q h => by simp at h⟩
  have hl := lv_entry ([.ref b]) (n := 14) (Nat.le_of_ble_eq_true rfl)
  rw [lg_entry_eq]
  generalize (lg_sl ([.ref b]) ++ List.replicate (14 - (lg_sl ([.ref b])).length) Slot.unset).toArray = ls at hl ⊢
  have hl : lv_has ls 14 [(0, .ref b)] := hl
  refine va_new (ci := 5) (fs := [.null, .null, .null, .null, .null]) (C := RX5) (T := TX5) (N := 5) hx hb hts0 inX5 tyX5 tyX5_ok hown (hts (.classLink RL 13 RX5) (List.mem_of_getElem? (i := 0) rfl)) (hts (.instantiable RX5 5) (List.mem_of_getElem? (i := 1) rfl)) (hts (.initialized RX5) (List.mem_of_getElem? (i := 2) rfl)) hK hP hD hS hA rfl (fun j hj => by rcases (show j = 0 ∨ j = 1 ∨ j = 2 ∨ j = 3 ∨ j = 4 by omega) with rfl | rfl | rfl | rfl | rfl <;> rfl) (Nat.le_of_ble_eq_true rfl) (Nat.le_of_ble_eq_true rfl) dL_law_0 (fun q1 H1 hP hD hS => ?_)
  have hP : va_P (dC, dI) vwCl ([(q1, .inr (5, [.null, .null, .null, .null, .null]))]) H1 := hP
  have hD : va_D (fun q : Nat => s.heap.size ≤ q) ([(q1, .inr (5, [.null, .null, .null, .null, .null]))]) := hD
  refine W.widen (k := 1) (n := 5) (Nat.le_of_ble_eq_true rfl) (Nat.le_of_ble_eq_true rfl) ?_
  refine lv_dup hx hb dL_law_3 rfl ?_
  have hPc : va_P (dC, dI) vwCl [(q1, .inr (5, [.null, .null, .null, .null, .null]))] H1 := hP.sub [0] rfl
  have hDc : va_D (fun q : Nat => s.heap.size ≤ q) [(q1, .inr (5, [.null, .null, .null, .null, .null]))] := hD.sub [0] (by decide) rfl
  have hFc : ∀ q : Nat, va_A [(q1, .inr (5, [.null, .null, .null, .null, .null]))] H1.size q → (fun q : Nat => s.heap.size ≤ q) q := va_free hD hS hA [0] rfl
  refine va_callv (va_runI (As := []) (rest := [.ref q1]) ⟨hx, hb, hml, hown, hts⟩ (c_X5_init l dC dI cI cC cS q1 H1.size) (cwI 0 hts gL_law_X5_init rfl rfl rfl (hts (.initialized RX5) (List.mem_of_getElem? (i := 2) rfl)) (hts (.methodLink RL 89 yX5_init) (List.mem_of_getElem? (i := 3) rfl)) (hts (.instanceMethod yX5_init) (List.mem_of_getElem? (i := 4) rfl)) rfl (by decide +kernel) ⟨(Nat.le_of_ble_eq_true rfl), (Nat.le_of_ble_eq_true rfl)⟩) (pN hK hPc hDc hN hO) rfl rfl hl.1 rfl (lv_room (Nat.le_of_ble_eq_true rfl)) dL_law_4 ⟨(Nat.le_of_ble_eq_true rfl), (Nat.le_of_ble_eq_true rfl)⟩) hS (fun q _ h => hFc q h) hFc (fun a t_a H2 locs ht hvm hw hB hz1 hk1 hS => ?_)
  obtain ⟨hP1, hD1⟩ := hB
  rw [ht] at hP1
  subst hw
  obtain ⟨hP, hD⟩ := va_join (wc := [((a 0), .inr (5, [.null, .null, .null, .null, .null]))]) (wr := []) (w1 := cDk a cI cC cS G0) hP hD [0] [] rfl rfl (by decide) (by decide) hk1 hFc hP1 hD1
  have hP : va_P (dC, dI) vwCl ([] ++ cDk a cI cC cS G0) H2 := hP
  have hD : va_D (fun q : Nat => s.heap.size ≤ q) ([] ++ cDk a cI cC cS G0) := hD
  refine W.widen (k := 93) (n := 1959) (Nat.le_of_ble_eq_true rfl) (Nat.le_of_ble_eq_true rfl) ?_
  refine lv_astore_n (lv' := [(1, .ref (a 0)), (0, .ref b)]) hx hb dL_law_7 rfl hl (by decide) rfl (fun ls hl => ?_)
  refine lv_iconst (v := 0) hx hb dL_law_8 (by decide) ?_
  refine lv_istore_n (lv' := [(2, .int 0), (1, .ref (a 0)), (0, .ref b)]) hx hb dL_law_9 rfl hl (by decide) rfl (fun ls hl => ?_)
  exact law_body l C0 hK hN hT hL a (law_is_1 L xs) _ _ _ hP hD hS (lv_sub hl [2, 1, 0] rfl)
