/-! store, recall, run, reset, text, looks -/
theorem scenes_0 (R S : SR) (h : ∀ k : Nat, k < 6 → R 0 (181 + 18 * k) = S 0 (181 + 18 * k)) : f_X6_scenes R = f_X6_scenes S := by
  have key : ∀ (n k : Nat) (x : Int32), k ≤ 6 → f_X6_scenes_p4 R n x (nI k) = f_X6_scenes_p4 S n x (nI k) := by
    intro n
    induction n with
    | zero => intro k x hk; rfl
    | succ n ih =>
      intro k x hk
      rw [f_X6_scenes_p4, f_X6_scenes_p4]
      by_cases c : (6 : Int32) ≤ nI k
      · rw [if_pos c, if_pos c]
      · have hk6 : k < 6 := lp_ge (x := nI k) rfl (show (6 : Int32) = nI 6 from rfl) (by omega) (by omega) c
        have e : (181 + 18 * nI k).toNatClampNeg = 181 + 18 * k := (by decide +kernel : ∀ k : Nat, k < 6 → (181 + 18 * nI k).toNatClampNeg = 181 + 18 * k) k hk6
        rw [if_neg c, if_neg c, nI_1, ih _ _ (by omega), e, h k hk6]
  have := key 7 0 0 (by omega)
  rw [nI_0] at this
  rw [f_X6_scenes, f_X6_scenes]
  exact this
theorem sc_ix : ∀ a : Nat, a < 6 → 181 + 18 * nI a = nI (181 + 18 * a) := by decide +kernel
theorem store_p36 {p : Nat} (hp : p < 6) (p1 : Int32) : ∀ (n j : Nat) (R : SR), j ≤ 16 → 16 < j + n → ∃ S : SR, f_X6_store_p36 p1 n (nI (181 + 18 * p)) (nI j) R = (f_X6_scenes S, S) ∧ (∀ i : Nat, (i < 182 + 18 * p ∨ 198 + 18 * p < i) → S 0 i = R 0 i) ∧ ∀ r : Nat, r ≠ 0 → S r = R r := by
  intro n
  induction n with
  | zero => intro j R h1 h2; omega
  | succ n ih =>
    intro j R h1 h2
    rw [f_X6_store_p36]
    by_cases c : (16 : Int32) ≤ nI j
    · rw [if_pos c, sLet_eq, show (17 : Int32) = nI 17 from rfl, nI_add, nI_clamp (by omega)]
      exact ⟨_, rfl, fun i hi => sU_ne (by omega), fun r hr => sU_row hr⟩
    · have hj : j < 16 := lt16 h1 c
      rw [if_neg c, sLet_eq, nI_1, show nI (181 + 18 * p) + 1 = nI (181 + 18 * p + 1) from nI_1 _, nI_add, nI_clamp (by omega)]
      obtain ⟨S, e, a1, a2⟩ := ih (j + 1) (sU R 0 (181 + 18 * p + 1 + j) (R 0 (f_X6_at (nI j)).toNatClampNeg)) (by omega) (by omega)
      exact ⟨S, e, fun i hi => (a1 i hi).trans (sU_ne (by omega)), fun r hr => (a2 r hr).trans (sU_row hr)⟩
theorem or_bit : ∀ m : Nat, m < 64 → ∀ k : Nat, k < 6 → nI m ||| (1 <<< (nI k &&& 31)) = nI (m ||| 2 ^ k) ∧ m ||| 2 ^ k < 64 ∧ ∀ j : Nat, j < 6 → (m ||| 2 ^ k) / 2 ^ j % 2 = if j = k then 1 else m / 2 ^ j % 2 := by decide +kernel
theorem bits6 : ∀ m : Nat, m < 64 → f_J6_bitCount_0f7a4 (nI m) = f_X6_scenes (fun _ i => nI (m / 2 ^ ((i - 181) / 18) % 2)) := by decide +kernel
theorem scn_eq {M : SR} {R : SR} (h : CUR M (R 0)) : f_J6_bitCount_0f7a4 (M 10 7) = f_X6_scenes R := by
  obtain ⟨-, -, -, ⟨m, m1, m2, m3⟩, -⟩ := h
  rw [m2, bits6 m m1]
  refine scenes_0 _ _ fun k hk => ?_
  rw [m3 k hk, show (181 + 18 * k - 181) / 18 = k by omega]
theorem keepScene_eq (M : SR) (a : Int32) : (f_X4_keepScene M a) 3 = M 3 ∧ (f_X4_keepScene M a) 4 = M 4 ∧ (f_X4_keepScene M a) 5 = M 5 ∧ (f_X4_keepScene M a) 10 3 = M 10 3 ∧ (f_X4_keepScene M a) 10 7 = (M 10 7 ||| (1 <<< (a &&& 31))) := by
  rw [f_X4_keepScene, sLet_eq, sLet_eq, sLet_eq]
  generalize hS : sU (sR M 8 (va_cpy (M 1) (M 8) 0 (a * 17).toNatClampNeg 16)) 8 ((a * 17) + 16).toNatClampNeg ((sR M 8 (va_cpy (M 1) (M 8) 0 (a * 17).toNatClampNeg 16)) 10 0) = S
  have hr : ∀ r : Nat, r ≠ 8 → S r = M r := fun r hr => by
    rw [← hS, sU_row hr]
    unfold sR
    exact vu_ne hr
  refine ⟨?_, ?_, ?_, ?_, ?_⟩
  · rw [sU_row (by decide), hr 3 (by decide)]
  · rw [sU_row (by decide), hr 4 (by decide)]
  · rw [sU_row (by decide), hr 5 (by decide)]
  · rw [sU_ne (by decide), hr 10 (by decide)]
  · rw [sU_eq, hr 10 (by decide)]
theorem r_store {G : GR} {R : SR} (h : REL3 G R) (v1 : Int32) : (f_X5_store G v1).1 = (f_X6_store R v1).1 ∧ REL3 (f_X5_store G v1).2 (f_X6_store R v1).2 := by
  by_cases c1 : f_X6_isScene v1 = 0
  · rw [f_X5_store, e6, if_pos c1, f_X6_store, sLet_eq, if_pos c1]; exact ⟨rfl, rel3_ro h⟩
  · obtain ⟨a, ha, rfl⟩ := vp_in_of (scene_vp c1) (by decide)
    rw [f_X5_store, e6, if_neg c1, sLet_eq, sLet_eq, f_X6_store, sLet_eq, if_neg c1, sLet_eq, sLet_eq, sc_ix a ha, nI_clamp (by omega)]
    have g := rel3_act (rel3_ro h)
    generalize f_X6_act (sU R 6 0 0) = R1 at g ⊢
    generalize f_X1_keep G = G1 at g ⊢
    obtain ⟨S, e, a1, a2⟩ := store_p36 ha (nI a) 17 0 (sU R1 0 (181 + 18 * a) 1) (by omega) (by omega)
    rw [nI_0] at e
    rw [e]
    dsimp only
    obtain ⟨k3, k4, k5, k1, k7⟩ := keepScene_eq (G1 0) (nI a)
    have hc : CUR (f_X4_keepScene (G1 0) (nI a)) (S 0) := by
      obtain ⟨h1, h2, h3, ⟨m, m1, m2, m3⟩, h5, h6, h7⟩ := g.1
      obtain ⟨o1, o2, o3⟩ := or_bit m m1 a ha
      refine ⟨fun q hq => ?_, fun f hf => ?_, fun f hf => ?_, ⟨m ||| 2 ^ a, o2, by rw [k7, m2, o1], fun q hq => ?_⟩, ?_, ?_, fun f hf => ?_⟩
      · rw [a1 _ (by omega), sU_ne (by omega), k3]; exact h1 q hq
      · rw [a1 _ (by omega), sU_ne (by omega), k4]; exact h2 f hf
      · rw [a1 _ (by omega), sU_ne (by omega), k5]; exact h3 f hf
      · rw [a1 _ (by omega), o3 q hq]
        by_cases z : q = a
        · subst z; rw [sU_eq, if_pos rfl]; rfl
        · rw [sU_ne (by omega), if_neg z]; exact m3 q hq
      · rw [a1 _ (by omega), sU_ne (by omega), k1]; exact h5
      · rw [a1 _ (by omega), sU_ne (by omega), a1 _ (by omega), sU_ne (by omega)]; exact h6
      · rw [k4]; exact h7 f hf
    refine ⟨by rw [vu_eq]; exact scn_eq hc, rel3_now g hc ?_ ?_ ?_ ?_⟩
    · rw [a2 2 (by decide), sU_row (by decide)]
    · rw [a2 3 (by decide), sU_row (by decide)]
    · rw [a2 6 (by decide), sU_row (by decide)]
    · rw [a2 6 (by decide), sU_row (by decide)]
theorem has_bit : ∀ m : Nat, m < 64 → ∀ k : Nat, k < 6 → (f_X5_hasBit (nI m) (nI k) = 0 ↔ nI (m / 2 ^ k % 2) = 0) := by decide +kernel
theorem r_recall {G : GR} {R : SR} (h : REL3 G R) (v1 v2 : Int32) (hs : RS (f_X6_recall R v1 v2).2) : REL3 (f_X5_recall G v1 v2).2 (f_X6_recall R v1 v2).2 := by
  revert hs
  dsimp only [f_X5_recall, f_X6_recall, sLet]
  rw [e6, ew]
  by_cases c1 : f_X6_isScene v1 = 0
  · rw [if_pos c1, if_pos c1]; intro _; exact rel3_ro h
  · rw [if_neg c1, if_neg c1]
    by_cases c2 : f_X6_in v2 0 100 = 0
    · rw [if_pos c2, if_pos c2]; intro _; exact rel3_ro h
    · rw [if_neg c2, if_neg c2]
      obtain ⟨a, ha, rfl⟩ := vp_in_of (scene_vp c1) (by decide)
      obtain ⟨m, m1, m2, m3⟩ := h.1.2.2.2.1
      rw [sc_ix a ha, nI_clamp (by omega), sU_row (show 0 ≠ 6 by decide), m3 a ha, m2]
      by_cases c3 : f_X5_hasBit (nI m) (nI a) = 0
      · rw [if_pos c3, if_pos ((has_bit m m1 a ha).mp c3)]; intro _; exact rel3_ro h
      · rw [if_neg c3, if_neg (fun z => c3 ((has_bit m m1 a ha).mpr z))]
        dsimp only
        intro hs
        exact rel3_tk h (by rw [(keep_now h).1]; exact ck_fade ck_rf) (tk_55 _ _ _ _ _ tk_rf) hs
theorem r_run {G : GR} {R : SR} (h : REL3 G R) (v1 : Int32) (hs : RS (f_X6_run R v1).2) : REL3 (f_X5_run G v1).2 (f_X6_run R v1).2 := by
  revert hs
  dsimp only [f_X5_run, f_X6_run, sLet]
  rw [ew, sU_row (show 0 ≠ 6 by decide), h.1.2.2.2.2.1]
  by_cases c1 : f_X6_in v1 1 100 = 0
  · rw [if_pos c1, if_pos c1]; intro _; exact rel3_ro h
  · rw [if_neg c1, if_neg c1]
    by_cases c2 : (G 0) 10 3 + v1 ≤ 10000
    · rw [if_pos c2, if_pos c2]
      obtain ⟨P, hP, rfl⟩ := vp_in_of (in_vp (n := 100) c1 (by decide)) (by decide)
      have g := rel3_act (rel3_ro h)
      obtain ⟨S, e, s1, s2, s3, s4⟩ := tt_run (A := f_X6_act (sU R 6 0 0)) (P := P) (by omega) (P + 1) 0 (f_X6_act (sU R 6 0 0)) (by omega) (by omega) ⟨fun _ _ => rfl, fun _ _ _ => rfl, fun _ _ => rfl, by rw [nI_0, Int32.add_zero]⟩
      rw [nI_0] at e
      rw [nI_clamp (by omega), e]
      dsimp only
      intro hs
      obtain ⟨c3, c4, c5, c7, c1'⟩ := ct_run (A := f_X1_keep G 0) (P := P) (by omega)
      refine rel3_now g ?_ (s1 2 (by decide)) (s1 3 (by decide)) (by rw [s1 6 (by decide)]) (by rw [s1 6 (by decide)])
      obtain ⟨h1, h2, h3, ⟨m, m1, m2, m3⟩, h5, h6, h7⟩ := g.1
      refine ⟨fun q hq => ?_, fun f hf => ?_, fun f hf => ?_, ⟨m, m1, by rw [c7]; exact m2, fun q hq => ?_⟩, ?_, hs, fun f hf => ?_⟩
      · rw [s2 _ (by omega) (by omega), c3]; exact h1 q hq
      · rw [s2 _ (by omega) (by omega), c4]; exact h2 f hf
      · rw [s2 _ (by omega) (by omega), c5]; exact h3 f hf
      · rw [s3 _ (by omega)]; exact m3 q hq
      · rw [s4, c1', h5]
      · rw [c4]; exact h7 f hf
    · rw [if_neg c2, if_neg c2]; intro _; exact rel3_ro h
theorem r_reset {G : GR} {R : SR} (h : REL3 G R) (hs : RS (f_X6_reset R).2) : REL3 (f_X5_reset G).2 (f_X6_reset R).2 := by
  revert hs
  dsimp only [f_X5_reset, f_X6_reset, sLet]
  intro hs
  have e : va_up (va_up (f_X1_keep G) 0 (sU (f_X1_keep G 0) 10 5 0)) 0 (sU (va_up (f_X1_keep G) 0 (sU (f_X1_keep G 0) 10 5 0) 0) 10 6 0) = va_up (f_X1_keep G) 0 (sU (sU (f_X1_keep G 0) 10 5 0) 10 6 0) := by
    rw [vu_eq]
    funext k
    by_cases q : k = 0
    · subst q; rw [vu_eq, vu_eq]
    · rw [vu_ne q, vu_ne q, vu_ne q]
  rw [e]
  exact rel3_tk h (by rw [(keep_now h).1]; exact ck_s10 (ck_s10 ck_rf)) (tk_s (tk_s tk_rf (by omega)) (by omega)) hs
theorem chr_eq : ∀ c : Nat, c < 256 → vp_nar .char ((nI c).toUInt32 % 65536).toInt32 = nI c := by decide +kernel
theorem txt_add {P R : SR} {N c : Nat} (hN : N < 140) (h1 : P 1 0 = nI N) (h2 : R 6 2 = nI N) (h3 : ∀ j : Nat, j < N → P 0 j = R 3 j ∧ ∃ c : Nat, 0 < c ∧ c < 256 ∧ R 3 j = nI c) (hc : 0 < c ∧ c < 256) : TXT (sU (sU P 0 N (nI c)) 1 0 (nI (N + 1))) (sU (sU R 3 N (nI c)) 6 2 (nI (N + 1))) := by
  refine ⟨N + 1, by omega, sU_eq, sU_eq, fun j hj => ?_⟩
  rw [sU_row (show 0 ≠ 1 by decide), sU_row (show 3 ≠ 6 by decide)]
  by_cases e : j = N
  · subst e; rw [sU_eq, sU_eq]; exact ⟨rfl, c, hc.1, hc.2, rfl⟩
  · rw [sU_ne e, sU_ne e]; exact h3 j (by omega)
theorem r_append {G : GR} {R : SR} (h : REL3 G R) (v1 : Int32) : (f_X5_append G v1).1 = (f_X6_append R v1).1 ∧ REL3 (f_X5_append G v1).2 (f_X6_append R v1).2 := by
  dsimp only [f_X5_append, f_X6_append, sLet]
  rw [ew]
  by_cases c1 : f_X6_in v1 1 255 = 0
  · rw [if_pos c1, if_pos c1]; exact ⟨rfl, rel3_ro h⟩
  · rw [if_neg c1, if_neg c1]
    obtain ⟨N, n1, n2, n3, n4⟩ := h.2.2
    have e62 : (sU R 6 0 0) 6 2 = nI N := by rw [sU_ne (by decide)]; exact n3
    rw [e62, n2]
    by_cases c2 : N = 140
    · subst c2
      rw [if_neg (show ¬ nI 140 < 140 by decide), if_pos (show nI 140 = 140 from rfl)]
      exact ⟨rfl, rel3_ro h⟩
    · rw [if_pos (show nI N < 140 from nI_lt (a := N) (b := 140) (by omega) (by omega)), if_neg (show ¬ nI N = 140 from fun z => c2 ((nI_eq (a := N) (b := 140) (by omega) (by omega)).mp z))]
      obtain ⟨x1, x2⟩ := in_split c1
      obtain ⟨c, hc, rfl⟩ := nI_of (x := v1) (fun z => x1 (by rw [Int32.lt_iff_toInt_lt] at z ⊢; have q0 : (0 : Int32).toInt = 0 := by decide
                                                              have q1 : (1 : Int32).toInt = 1 := by decide
                                                              omega))
      have hc0 : 0 < c ∧ c < 256 := by
        rw [Int32.lt_iff_toInt_lt, nI_toInt hc] at x1 x2
        have q1 : (1 : Int32).toInt = 1 := by decide
        have q2 : (255 : Int32).toInt = 255 := by decide
        omega
      have ea : f_X2_add (G 9) ((nI c).toUInt32 % 65536).toInt32 = sU (sU (G 9) 0 N (nI c)) 1 0 (nI (N + 1)) := by
        rw [f_X2_add, n2, if_pos (show nI N < 140 from nI_lt (a := N) (b := 140) (by omega) (by omega)), sLet_eq, sLet_eq, sU_row (show 1 ≠ 0 by decide), n2, nI_clamp (by omega), chr_eq c hc0.2, nI_1]
      have er : sU (sU (sU R 6 0 0) 3 (nI N).toNatClampNeg (nI c)) 6 2 ((sU (sU R 6 0 0) 3 (nI N).toNatClampNeg (nI c)) 6 2 + 1) = sU (sU (sU R 6 0 0) 3 N (nI c)) 6 2 (nI (N + 1)) := by
        rw [nI_clamp (by omega), sU_row (show 6 ≠ 3 by decide), e62, nI_1]
      dsimp only
      rw [er, ea]
      refine ⟨by rw [vu_eq, sU_eq, sU_eq], rel3_text (rel3_ro h) ?_ ?_ ?_ (txt_add (by omega) n2 e62 (fun j hj => by rw [sU_row (show 3 ≠ 6 by decide)]; exact n4 j hj) hc0)⟩
      · rw [sU_row (by decide), sU_row (by decide)]
      · rw [sU_row (by decide), sU_row (by decide)]
      · rw [sU_ne (by decide), sU_row (by decide)]
theorem r_clear {G : GR} {R : SR} (h : REL3 G R) : (f_X5_clearText G).1 = (f_X6_clearText R).1 ∧ REL3 (f_X5_clearText G).2 (f_X6_clearText R).2 := by
  dsimp only [f_X5_clearText, f_X6_clearText, sLet]
  obtain ⟨N, n1, n2, n3, n4⟩ := h.2.2
  refine ⟨by rw [n2, sU_ne (by decide), n3], rel3_text (rel3_ro h) (sU_row (by decide)) (sU_row (by decide)) (sU_ne (by decide)) ⟨0, by omega, ?_, ?_, fun j hj => by omega⟩⟩
  · rw [sU_eq]; rfl
  · rw [sU_eq]; rfl
theorem r_outputIn {G : GR} {R : SR} (h : REL3 G R) (v1 v2 : Int32) : REL3 (f_X5_outputIn G v1 v2).2 (f_X6_outputIn R v1 v2).2 := by
  dsimp only [f_X5_outputIn, f_X6_outputIn, sLet]
  rw [e4, ew]
  by_cases c1 : f_X6_isFour v1 = 0
  · rw [if_pos c1, if_pos c1]; exact rel3_ro h
  · rw [if_neg c1, if_neg c1]
    by_cases c2 : f_X6_in v2 0 100 = 0
    · rw [if_pos c2, if_pos c2]; exact rel3_ro h
    · rw [if_neg c2, if_neg c2]
      obtain ⟨P, hP, rfl⟩ := vp_in_of (in_vp (n := 100) c2 (by decide)) (by decide)
      obtain ⟨a1, a2⟩ := out_30 (f := v1) (P := P) (by omega) (P + 1) 0 _ (f_X6_hold (sU R 6 0 0)) (by omega) (by omega) (A := f_X6_hold (sU R 6 0 0)) ⟨fun _ _ => rfl, fun _ _ _ => rfl, fun _ _ => rfl, rfl⟩
      rw [nI_0] at a1 a2
      rw [nI_clamp (by omega)]
      dsimp only
      have g := rel3_other (rel3_other (rel3_ro h) (k := 1) (M := G 0) (by omega)) (k := 1) (M := f_X4_goOn (va_up G 1 (G 0) 1) (nI P)) (by omega)
      refine rel3_R g (fun k hk => ?_) ?_ ?_ ?_ ?_
      · rw [a2 k hk, hold_1 hk]
      · rw [a1 2 (by decide), hold_r (by decide)]
      · rw [a1 3 (by decide), hold_r (by decide)]
      · rw [a1 6 (by decide), hold_r (by decide)]
      · rw [a1 6 (by decide), hold_r (by decide)]
/-- looks: the reference alone, and nothing but 'thrown' -/
theorem l_count (R : SR) (a : Int32) : (f_X6_count R a).2 = sU R 6 0 0 := by
  rw [f_X6_count, sLet_eq]
  repeat' split
  all_goals rfl
theorem l_channel (R : SR) (a b : Int32) : (f_X6_channel R a b).2 = sU R 6 0 0 := by
  rw [f_X6_channel, sLet_eq]
  repeat' split
  all_goals rfl
theorem l_group (R : SR) (a b : Int32) : (f_X6_group R a b).2 = sU R 6 0 0 := by
  rw [f_X6_group, sLet_eq]
  repeat' split
  all_goals rfl
theorem l_feed (R : SR) (a b : Int32) : (f_X6_feed R a b).2 = sU R 6 0 0 := by
  rw [f_X6_feed, sLet_eq]
  repeat' split
  all_goals rfl
theorem l_send (R : SR) (a b c : Int32) : (f_X6_send R a b c).2 = sU R 6 0 0 := by
  rw [f_X6_send, sLet_eq]
  repeat' split
  all_goals rfl
theorem l_scene (R : SR) (a b : Int32) : (f_X6_scene R a b).2 = sU R 6 0 0 := by
  rw [f_X6_scene, sLet_eq]
  repeat' split
  all_goals rfl
theorem l_why (R : SR) (a : Int32) : (f_X6_why R a).2 = sU R 6 0 0 := by
  rw [f_X6_why, sLet_eq]
  repeat' split
  all_goals rfl
/-- paths: the class's routes alone change -/
theorem o8_path (G : GR) (a b c : Int32) : ∃ T : SR, (f_X5_path G a b c).2 = va_up G 8 T ∨ (f_X5_path G a b c).2 = G ∨ ∃ U : SR, (f_X5_path G a b c).2 = va_up (va_up G 8 U) 8 T := by
  rw [f_X5_path]
  dsimp only [sLet]
  by_cases c1 : f_X5_isBelow a 12 = 0
  · rw [if_pos c1]; exact ⟨G 0, Or.inr (Or.inl rfl)⟩
  · rw [if_neg c1]
    by_cases c2 : f_X5_isBelow b 4 = 0
    · rw [if_pos c2]; exact ⟨G 0, Or.inr (Or.inl rfl)⟩
    · rw [if_neg c2]
      by_cases c3 : (-1 : Int32) ≤ c
      · rw [if_pos c3]; exact ⟨_, Or.inr (Or.inr ⟨_, rfl⟩)⟩
      · rw [if_neg c3]; exact ⟨G 0, Or.inr (Or.inl rfl)⟩
theorem o8_loudest (G : GR) (a b : Int32) : (f_X5_loudest G a b).2 = G ∨ ∃ T : SR, (f_X5_loudest G a b).2 = va_up G 8 T := by
  rw [f_X5_loudest]
  dsimp only [sLet]
  by_cases c1 : f_X5_isBelow a 12 = 0
  · rw [if_pos c1]; exact Or.inl rfl
  · rw [if_neg c1]
    by_cases c2 : f_X5_isBelow b 4 = 0
    · rw [if_pos c2]; exact Or.inl rfl
    · rw [if_neg c2]; exact Or.inr ⟨_, rfl⟩
theorem o8_loops (G : GR) : ∃ T : SR, (f_X5_loops G).2 = va_up G 8 T := by
  rw [f_X5_loops]
  dsimp only [sLet]
  exact ⟨_, rfl⟩
theorem o8_hearers (G : GR) (a : Int32) : (f_X5_hearers G a).2 = G ∨ ∃ T : SR, (f_X5_hearers G a).2 = va_up G 8 T := by
  rw [f_X5_hearers]
  dsimp only [sLet]
  by_cases c1 : f_X5_isBelow a 4 = 0
  · rw [if_pos c1]; exact Or.inl rfl
  · rw [if_neg c1]; exact Or.inr ⟨_, rfl⟩
theorem o8_cut (G : GR) (a : Int32) : (f_X5_cut G a).2 = G ∨ (∃ T : SR, (f_X5_cut G a).2 = va_up G 8 T) ∨ ∃ T U : SR, (f_X5_cut G a).2 = va_up (va_up G 8 U) 8 T := by
  rw [f_X5_cut]
  dsimp only [sLet]
  by_cases c1 : f_X5_isBelow a 4 = 0
  · rw [if_pos c1]; exact Or.inl rfl
  · rw [if_neg c1]
    by_cases c2 : f_X3_ownersHearing (va_up G 8 (f_X3_survey (G 8) (G 0)) 8) (va_up G 8 (f_X3_survey (G 8) (G 0)) 0) a = 0
    · rw [if_pos c2]; exact Or.inr (Or.inl ⟨_, rfl⟩)
    · rw [if_neg c2]; exact Or.inr (Or.inr ⟨_, _, rfl⟩)
