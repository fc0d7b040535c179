/-! load, and the law's relation -/
theorem load_loop {B : SR} {T : Nat → Int32} {N : Nat} (hT : TOK T N) : ∀ (n1 n2 x k : Nat) (s : Nat → Int32) (P M R : SR), PR B T N s k P R → CUR M s → 2 * x ≤ k → 71 ≤ n1 + x → n1 + 1 < n2 → ∃ (q y : Nat) (s' : Nat → Int32) (v : Int32) (Rz : SR), f_X6_load_p18 n2 (nI x) 1 R = f_X6_load_p40 (nI y) v Rz ∧ PR B T N s' q (f_X2_carryOutOn_p7 n1 (nI x) P M).2.1 Rz ∧ ((v = 0 ∧ (f_X2_carryOutOn_p7 n1 (nI x) P M).1 = (-1000) - nI q) ∨ (v = 1 ∧ (f_X2_carryOutOn_p7 n1 (nI x) P M).1 = nI y ∧ y ≤ 70 ∧ CUR (f_X2_carryOutOn_p7 n1 (nI x) P M).2.2 s')) := by
  intro n1
  induction n1 with
  | zero => intro n2 x k s P M R h hc hx hn; have := h.1; have := h.2.1; omega
  | succ n1 ih =>
    intro n2 x k s P M R h hc hx hn1 hn2
    have hk := h.1
    have hN := h.2.1
    obtain ⟨m, rfl⟩ : ∃ m, n2 = m + 1 := ⟨n2 - 1, by omega⟩
    rw [f_X2_carryOutOn_p7, f_X6_load_p18, if_neg (show ¬ (140 : Int32) ≤ nI x from fun z => absurd ((nI_leI (a := 140) (by omega) (by omega)).mp z) (by omega)), if_neg (show ¬ (1 : Int32) = 0 by decide)]
    dsimp only [sLet]
    obtain ⟨w, w1, w2, w3⟩ := sk_all h
    generalize f_X2_skipSpaces P = P1 at w2 ⊢
    generalize f_X6_here R = Hh at w2 w3 ⊢
    rcases w3 with ⟨a1, a2, a3⟩ | ⟨a1, a2⟩
    · have nl : P1 1 1 < P1 1 0 := by
        rw [w2.2.2.2.1, w2.2.2.1]
        exact nI_lt a1 (by omega)
      have nn : ¬ Hh.1 < 0 := by
        rw [a2]
        obtain ⟨c, d1, d2, d3⟩ := hT w a1
        rw [d3]
        exact nI_pos (by omega)
      rw [if_pos nl, if_neg nn]
      obtain ⟨q, s', q1, q2, q3⟩ := item_rel hT w2 hc
      generalize f_X2_readItem P1 M = c at q2 q3 ⊢
      generalize f_X6_readsItem Hh.2 = r at q2 q3 ⊢
      rcases q3 with ⟨e1, e2⟩ | ⟨e1, e2, e3, e4⟩
      · obtain ⟨m', rfl⟩ : ∃ m', m = m' + 1 := ⟨m - 1, by omega⟩
        rw [if_pos e1, e2, f_X6_load_p18, if_pos rfl]
        exact ⟨q, x + 1, s', 0, r.2, by rw [nI_1], q2, Or.inl ⟨rfl, by rw [q2.2.2.2.1]⟩⟩
      · rw [if_neg (show ¬ c.1 = 0 by rw [e1]; decide), e2, nI_1]
        exact ih m (x + 1) q s' c.2.1 c.2.2 r.2 q2 e4 (by omega) (by omega) (by omega)
    · have nl : ¬ P1 1 1 < P1 1 0 := by
        rw [w2.2.2.2.1, w2.2.2.1]
        exact fun z => absurd ((nI_ltI (by omega) (by omega)).mp z) (by omega)
      rw [if_neg nl, a2, if_pos (show (-1 : Int32) < 0 by decide)]
      exact ⟨w, x, s, 1, Hh.2, rfl, w2, Or.inr ⟨rfl, rfl, by omega, hc⟩⟩
theorem exch_p2_r : ∀ (n : Nat) (x : Int32) (R : SR) (r : Nat), r ≠ 0 → r ≠ 1 → (f_X6_exchange_p2 n x R) r = R r := by
  intro n
  induction n with
  | zero => intro x R r h0 h1; rfl
  | succ n ih =>
    intro x R r h0 h1
    rw [f_X6_exchange_p2]
    by_cases c : (289 : Int32) ≤ x
    · rw [if_pos c]
    · rw [if_neg c, sLet_eq, sLet_eq, ih _ _ r h0 h1, sU_row h1, sU_row h0]
theorem exch_r {R : SR} {r : Nat} (h0 : r ≠ 0) (h1 : r ≠ 1) : (f_X6_exchange R) r = R r := by rw [f_X6_exchange, exch_p2_r _ _ _ _ h0 h1]
theorem neg_at : ∀ q : Nat, q < 141 → ¬ (0 : Int32) ≤ (-1000) - nI q := by decide +kernel
theorem r_load {G : GR} {R : SR} (h : REL3 G R) : (f_X5_load G).1 = (f_X6_load R).1 ∧ REL3 (f_X5_load G).2 (f_X6_load R).2 := by
  obtain ⟨N, n1, n2, n3, n4⟩ := h.2.2
  have hT : TOK (R 3) N := fun j hj => (n4 j hj).2
  obtain ⟨R1, hR1⟩ : ∃ z, z = sU (f_X6_hold (sU R 6 0 0)) 6 3 0 := ⟨_, rfl⟩
  have b0 : R1 0 = R 0 := by rw [hR1, sU_row (by decide), hold_r (by decide), sU_row (by decide)]
  have b2 : R1 2 = R 2 := by rw [hR1, sU_row (by decide), hold_r (by decide), sU_row (by decide)]
  have b3 : R1 3 = R 3 := by rw [hR1, sU_row (by decide), hold_r (by decide), sU_row (by decide)]
  have b61 : R1 6 1 = R 6 1 := by rw [hR1, sU_ne (by decide), hold_r (by decide), sU_ne (by decide)]
  have b62 : R1 6 2 = R 6 2 := by rw [hR1, sU_ne (by decide), hold_r (by decide), sU_ne (by decide)]
  have b63 : R1 6 3 = nI 0 := by rw [hR1, sU_eq, nI_0]
  have b1 : ∀ k : Nat, k < 289 → R1 1 k = R 0 k := fun k hk => by rw [hR1, sU_row (by decide), hold_1 hk, sU_row (by decide)]
  have hPR : PR R1 (R 3) N (R 0) 0 (sU (G 9) 1 1 0) R1 := by
    refine ⟨Nat.zero_le _, n1, ?_, ?_, fun j hj => ?_, ?_, b63, fun j hj => by rw [b3], ⟨rfl, rfl, rfl, rfl, rfl⟩, b0⟩
    · rw [sU_ne (by decide)]; exact n2
    · rw [sU_eq, nI_0]
    · rw [sU_row (by decide)]; exact (n4 j hj).1
    · rw [b62]; exact n3
  obtain ⟨q, y, s', v, Rz, e1, e2, e3⟩ := load_loop hT 141 144 0 0 (R 0) (sU (G 9) 1 1 0) (G 0) R1 hPR h.1 (by omega) (by omega) (by omega)
  rw [nI_0] at e1 e2 e3
  have eL : f_X6_load R = f_X6_load_p40 (nI y) v Rz := by rw [f_X6_load, sLet_eq, sLet_eq, sLet_eq, ← hR1, e1]
  have eC : f_X2_carryOutOn (G 9) (G 0) = f_X2_carryOutOn_p7 141 0 (sU (G 9) 1 1 0) (G 0) := by rw [f_X2_carryOutOn, sLet_eq]
  rw [eL, f_X5_load]
  dsimp only [sLet]
  rw [vu_eq, vu_ne (show (9 : Nat) ≠ 1 by decide), eC]
  generalize f_X2_carryOutOn_p7 141 0 (sU (G 9) 1 1 0) (G 0) = C at e2 e3 ⊢
  have hq := e2.1
  obtain ⟨f1, f2, f3, f4, f5⟩ := e2.2.2.2.2.2.2.2.2.1
  have x2 : (f_X6_exchange Rz) 2 = R 2 := by rw [exch_r (by decide) (by decide), f2, b2]
  have x3 : (f_X6_exchange Rz) 3 = R 3 := by rw [exch_r (by decide) (by decide), f3, b3]
  have x61 : (f_X6_exchange Rz) 6 1 = R 6 1 := by rw [exch_r (by decide) (by decide), f4, b61]
  have x62 : (f_X6_exchange Rz) 6 2 = R 6 2 := by rw [exch_r (by decide) (by decide), f5, b62]
  have x63 : (f_X6_exchange Rz) 6 3 = nI q := by rw [exch_r (by decide) (by decide), e2.2.2.2.2.2.2.1]
  have x0 : ∀ k : Nat, k < 289 → (f_X6_exchange Rz) 0 k = R 0 k := fun k hk => by rw [exch_0 hk, f1, b1 k hk]
  have hre : REL3 G (f_X6_exchange Rz) := rel3_R h x0 x2 x3 x61 x62
  have ht : TXT C.2.1 (f_X6_exchange Rz) := ⟨N, n1, e2.2.2.1, by rw [x62]; exact n3, fun j hj => by rw [x3]; exact ⟨e2.2.2.2.2.1 j hj, (n4 j hj).2⟩⟩
  have g := rel3_other (rel3_text (rel3_other hre (k := 1) (M := G 0) (by omega)) rfl rfl rfl ht) (k := 1) (M := C.2.2) (by omega)
  generalize hGn : va_up (va_up (va_up G 1 (G 0)) 9 C.2.1) 1 C.2.2 = Gn at g ⊢
  have hG1 : Gn 1 = C.2.2 := by rw [← hGn, vu_eq]
  rw [f_X6_load_p40]
  dsimp only [sLet]
  rcases e3 with ⟨v0, c0⟩ | ⟨v1, c0, y0, c1⟩
  · subst v0
    rw [if_pos rfl, c0, if_neg (neg_at q (by omega))]
    dsimp only
    rw [x63]
    exact ⟨Eq.refl _, g⟩
  · subst v1
    rw [if_neg (show ¬ (1 : Int32) = 0 by decide), c0, if_pos (nI_pos' (n := y) (by omega))]
    dsimp only
    refine ⟨rfl, ?_⟩
    have ga := rel3_act g
    obtain ⟨k0, k1, k9⟩ := keep_now g
    have a1 : (f_X6_act (f_X6_exchange Rz)) 1 = (f_X6_exchange Rz) 1 := act_r (by decide) (by decide)
    generalize f_X6_act (f_X6_exchange Rz) = Ra at ga a1 ⊢
    generalize f_X1_keep Gn = Gk at ga k0 k1 k9 ⊢
    have hc : CUR (Gk 1) ((f_X6_exchange Ra) 0) := by
      rw [k1, hG1]
      refine cur_s c1 fun k hk => ?_
      rw [exch_0 hk, a1, exch_1 hk, e2.2.2.2.2.2.2.2.2.2]
    have gb := rel3_now ga hc (exch_r (by decide) (by decide)) (exch_r (by decide) (by decide)) (by rw [exch_r (by decide) (by decide)]) (by rw [exch_r (by decide) (by decide)])
    refine rel3_text gb (sU_row (by decide)) (sU_row (by decide)) (sU_ne (by decide)) ⟨0, by omega, ?_, ?_, fun j hj => by omega⟩
    · rw [sU_eq, nI_0]
    · rw [sU_eq, nI_0]
/-! the law's relation -/
def INV (_ : Nat) (G : GR) (R : SR) : Prop := REL G R
theorem vp_small : ∀ q : Nat, q ≤ 5 → vp_okB (nI q) 6 = true := by decide +kernel
theorem vp_long : ∀ q : Nat, q ≤ 140 → vp_okB (nI q) 141 = true := by decide +kernel
theorem wf_S0 : WF S0 := ⟨fun j hj => Or.inl ((by decide +kernel : ∀ j : Nat, j < 4 → S0 5 j = -1) j hj), vp_of_B (by decide +kernel)⟩
theorem wfg_G0 : WFG G0 := by
  refine ⟨fun k hk => ?_, vp_of_B (by decide +kernel), vp_of_B (by decide +kernel), vp_of_B (by decide +kernel)⟩
  have : G0 k = S0 := if_pos hk
  rw [this]
  exact wf_S0
theorem inv_0 : INV 0 G0 R0 := by
  refine ⟨wfg_G0, ⟨?_, ?_, ?_, ⟨0, by omega, ?_, ?_⟩, ?_, ?_, fun f hf => ?_⟩, ⟨0, 0, by omega, by omega, ?_, ?_, ?_, fun i hi => by omega⟩, ⟨0, by omega, ?_, ?_, fun j hj => by omega⟩⟩
  · decide +kernel
  · decide +kernel
  · decide +kernel
  · decide +kernel
  · decide +kernel
  · decide +kernel
  · exact fun z => absurd z (by decide +kernel)
  · exact vp_of_B ((by decide +kernel : ∀ f : Nat, f < 4 → vp_okB (G0 0 4 f) 4096 = true) f hf)
  · decide +kernel
  · decide +kernel
  · decide +kernel
  · decide +kernel
  · decide +kernel
theorem inv_none {i : Nat} {G : GR} {R : SR} (hV : INV i G R) : INV (i + 4) G R := hV
theorem inv_wf {i : Nat} {G : GR} {R : SR} (hV : INV i G R) (hi : i + 4 ≤ 2048) : WFG G ∧ RA R ∧ RS R ∧ vp_in (R 6 1) 6 ∧ vp_in (R 6 2) 141 := by
  obtain ⟨hW, hc, ⟨nx, sz, h1, h2, h3, h4, h5, h6⟩, ⟨N, n1, n2, n3, n4⟩⟩ := hV
  refine ⟨hW, fun j hj => ?_, hc.2.2.2.2.2.1, ?_, ?_⟩
  · rw [hc.2.2.1 j hj]; exact (hW.1 0 (by decide)).1 j hj
  · rw [h5]; exact vp_of_B (vp_small sz h2)
  · rw [n3]; exact vp_of_B (vp_long N n1)
theorem rel3_fx {G : GR} {R R' : SR} (h : REL3 G R) (hf : FX R R') (h0 : R' 0 = R 0) : REL3 G R' :=
  rel3_R h (fun k _ => by rw [h0]) hf.2.1 hf.2.2.1 hf.2.2.2.1 hf.2.2.2.2
theorem inv_setChannel {i : Nat} {G : GR} {R : SR} (hV : INV i G R) (hi : i + 4 ≤ 2048) (v1 v2 v3 : Int32) (g0 : WFG ((f_X5_setChannel G v1 v2 v3).2)) (g1 : RA ((f_X6_setChannel R v1 v2 v3).2)) (g2 : RS ((f_X6_setChannel R v1 v2 v3).2)) : INV (i + 4) ((f_X5_setChannel G v1 v2 v3).2) ((f_X6_setChannel R v1 v2 v3).2) := ⟨g0, r_setChannel hV.2 v1 v2 v3 g2⟩
theorem inv_setGroup {i : Nat} {G : GR} {R : SR} (hV : INV i G R) (hi : i + 4 ≤ 2048) (v1 v2 v3 : Int32) (g0 : WFG ((f_X5_setGroup G v1 v2 v3).2)) (g1 : RA ((f_X6_setGroup R v1 v2 v3).2)) (g2 : RS ((f_X6_setGroup R v1 v2 v3).2)) : INV (i + 4) ((f_X5_setGroup G v1 v2 v3).2) ((f_X6_setGroup R v1 v2 v3).2) := ⟨g0, r_setGroup hV.2 v1 v2 v3 g2⟩
theorem inv_setSend {i : Nat} {G : GR} {R : SR} (hV : INV i G R) (hi : i + 4 ≤ 2048) (v1 v2 v3 : Int32) (g0 : WFG ((f_X5_setSend G v1 v2 v3).2)) (g1 : RA ((f_X6_setSend R v1 v2 v3).2)) (g2 : RS ((f_X6_setSend R v1 v2 v3).2)) : INV (i + 4) ((f_X5_setSend G v1 v2 v3).2) ((f_X6_setSend R v1 v2 v3).2) := ⟨g0, (r_setSend hV.2 v1 v2 v3).2⟩
theorem inv_setOwner {i : Nat} {G : GR} {R : SR} (hV : INV i G R) (hi : i + 4 ≤ 2048) (v1 v2 v3 : Int32) (g0 : WFG ((f_X5_setOwner G v1 v2 v3).2)) (g1 : RA ((f_X6_setOwner R v1 v2 v3).2)) (g2 : RS ((f_X6_setOwner R v1 v2 v3).2)) : INV (i + 4) ((f_X5_setOwner G v1 v2 v3).2) ((f_X6_setOwner R v1 v2 v3).2) := ⟨g0, (r_setOwner hV.2 v1 v2 v3).2⟩
theorem inv_setReturn {i : Nat} {G : GR} {R : SR} (hV : INV i G R) (hi : i + 4 ≤ 2048) (v1 v2 : Int32) (g0 : WFG ((f_X5_setReturn G v1 v2).2)) (g1 : RA ((f_X6_setReturn R v1 v2).2)) (g2 : RS ((f_X6_setReturn R v1 v2).2)) : INV (i + 4) ((f_X5_setReturn G v1 v2).2) ((f_X6_setReturn R v1 v2).2) := ⟨g0, (r_setReturn hV.2 v1 v2).2⟩
theorem inv_store {i : Nat} {G : GR} {R : SR} (hV : INV i G R) (hi : i + 4 ≤ 2048) (v1 : Int32) (g0 : WFG ((f_X5_store G v1).2)) (g1 : RA ((f_X6_store R v1).2)) (g2 : RS ((f_X6_store R v1).2)) : INV (i + 4) ((f_X5_store G v1).2) ((f_X6_store R v1).2) := ⟨g0, (r_store hV.2 v1).2⟩
theorem inv_recall {i : Nat} {G : GR} {R : SR} (hV : INV i G R) (hi : i + 4 ≤ 2048) (v1 v2 : Int32) (g0 : WFG ((f_X5_recall G v1 v2).2)) (g1 : RA ((f_X6_recall R v1 v2).2)) (g2 : RS ((f_X6_recall R v1 v2).2)) : INV (i + 4) ((f_X5_recall G v1 v2).2) ((f_X6_recall R v1 v2).2) := ⟨g0, r_recall hV.2 v1 v2 g2⟩
theorem inv_run {i : Nat} {G : GR} {R : SR} (hV : INV i G R) (hi : i + 4 ≤ 2048) (v1 : Int32) (g0 : WFG ((f_X5_run G v1).2)) (g1 : RA ((f_X6_run R v1).2)) (g2 : RS ((f_X6_run R v1).2)) : INV (i + 4) ((f_X5_run G v1).2) ((f_X6_run R v1).2) := ⟨g0, r_run hV.2 v1 g2⟩
theorem inv_reset {i : Nat} {G : GR} {R : SR} (hV : INV i G R) (hi : i + 4 ≤ 2048) (g0 : WFG ((f_X5_reset G).2)) (g1 : RA ((f_X6_reset R).2)) (g2 : RS ((f_X6_reset R).2)) : INV (i + 4) ((f_X5_reset G).2) ((f_X6_reset R).2) := ⟨g0, r_reset hV.2 g2⟩
theorem inv_undo {i : Nat} {G : GR} {R : SR} (hV : INV i G R) (hi : i + 4 ≤ 2048) (g0 : WFG ((f_X5_undo G).2)) : INV (i + 4) ((f_X5_undo G).2) ((f_X6_undo R).2) := ⟨g0, (undo_rel hV.2).2⟩
theorem inv_append {i : Nat} {G : GR} {R : SR} (hV : INV i G R) (hi : i + 4 ≤ 2048) (v1 : Int32) (g0 : WFG ((f_X5_append G v1).2)) : INV (i + 4) ((f_X5_append G v1).2) ((f_X6_append R v1).2) := ⟨g0, (r_append hV.2 v1).2⟩
theorem inv_clearText {i : Nat} {G : GR} {R : SR} (hV : INV i G R) (hi : i + 4 ≤ 2048) (g0 : WFG ((f_X5_clearText G).2)) : INV (i + 4) ((f_X5_clearText G).2) ((f_X6_clearText R).2) := ⟨g0, (r_clear hV.2).2⟩
theorem inv_load {i : Nat} {G : GR} {R : SR} (hV : INV i G R) (hi : i + 4 ≤ 2048) (g0 : WFG ((f_X5_load G).2)) (g1 : RA ((f_X6_load R).2)) (g2 : RS ((f_X6_load R).2)) : INV (i + 4) ((f_X5_load G).2) ((f_X6_load R).2) := ⟨g0, (r_load hV.2).2⟩
theorem inv_count {i : Nat} {G : GR} {R : SR} (hV : INV i G R) (hi : i + 4 ≤ 2048) (v1 : Int32) (g0 : RA ((f_X6_count R v1).2)) (g1 : RS ((f_X6_count R v1).2)) : INV (i + 4) (G) ((f_X6_count R v1).2) := ⟨hV.1, by rw [l_count]; exact rel3_ro hV.2⟩
theorem inv_channel {i : Nat} {G : GR} {R : SR} (hV : INV i G R) (hi : i + 4 ≤ 2048) (v1 v2 : Int32) (g0 : RA ((f_X6_channel R v1 v2).2)) (g1 : RS ((f_X6_channel R v1 v2).2)) : INV (i + 4) (G) ((f_X6_channel R v1 v2).2) := ⟨hV.1, by rw [l_channel]; exact rel3_ro hV.2⟩
theorem inv_group {i : Nat} {G : GR} {R : SR} (hV : INV i G R) (hi : i + 4 ≤ 2048) (v1 v2 : Int32) (g0 : RA ((f_X6_group R v1 v2).2)) (g1 : RS ((f_X6_group R v1 v2).2)) : INV (i + 4) (G) ((f_X6_group R v1 v2).2) := ⟨hV.1, by rw [l_group]; exact rel3_ro hV.2⟩
theorem inv_feed {i : Nat} {G : GR} {R : SR} (hV : INV i G R) (hi : i + 4 ≤ 2048) (v1 v2 : Int32) (g0 : RA ((f_X6_feed R v1 v2).2)) (g1 : RS ((f_X6_feed R v1 v2).2)) : INV (i + 4) (G) ((f_X6_feed R v1 v2).2) := ⟨hV.1, by rw [l_feed]; exact rel3_ro hV.2⟩
theorem inv_send {i : Nat} {G : GR} {R : SR} (hV : INV i G R) (hi : i + 4 ≤ 2048) (v1 v2 v3 : Int32) (g0 : RA ((f_X6_send R v1 v2 v3).2)) (g1 : RS ((f_X6_send R v1 v2 v3).2)) : INV (i + 4) (G) ((f_X6_send R v1 v2 v3).2) := ⟨hV.1, by rw [l_send]; exact rel3_ro hV.2⟩
theorem inv_scene {i : Nat} {G : GR} {R : SR} (hV : INV i G R) (hi : i + 4 ≤ 2048) (v1 v2 : Int32) (g0 : RA ((f_X6_scene R v1 v2).2)) (g1 : RS ((f_X6_scene R v1 v2).2)) : INV (i + 4) (G) ((f_X6_scene R v1 v2).2) := ⟨hV.1, by rw [l_scene]; exact rel3_ro hV.2⟩
theorem inv_why {i : Nat} {G : GR} {R : SR} (hV : INV i G R) (hi : i + 4 ≤ 2048) (v1 : Int32) (g0 : RA ((f_X6_why R v1).2)) (g1 : RS ((f_X6_why R v1).2)) : INV (i + 4) (G) ((f_X6_why R v1).2) := ⟨hV.1, by rw [l_why]; exact rel3_ro hV.2⟩
theorem inv_path {i : Nat} {G : GR} {R : SR} (hV : INV i G R) (hi : i + 4 ≤ 2048) (v1 v2 v3 : Int32) (g0 : WFG ((f_X5_path G v1 v2 v3).2)) (g1 : RA ((f_X6_path R v1 v2 v3).2)) (g2 : RS ((f_X6_path R v1 v2 v3).2)) (g3 : FX R ((f_X6_path R v1 v2 v3).2)) (g4 : ((f_X6_path R v1 v2 v3).2) 0 = R 0) : INV (i + 4) ((f_X5_path G v1 v2 v3).2) ((f_X6_path R v1 v2 v3).2) := by
  refine ⟨g0, ?_⟩
  have h := rel3_fx hV.2 g3 g4
  revert h
  generalize (f_X6_path R v1 v2 v3).2 = R2
  intro h
  obtain ⟨T, e | e | ⟨U, e⟩⟩ := o8_path G v1 v2 v3
  · rw [e]; exact rel3_other h (by omega)
  · rw [e]; exact h
  · rw [e]; exact rel3_other (rel3_other h (by omega)) (by omega)
theorem inv_loudest {i : Nat} {G : GR} {R : SR} (hV : INV i G R) (hi : i + 4 ≤ 2048) (v1 v2 : Int32) (g0 : WFG ((f_X5_loudest G v1 v2).2)) (g1 : RA ((f_X6_loudest R v1 v2).2)) (g2 : RS ((f_X6_loudest R v1 v2).2)) (g3 : FX R ((f_X6_loudest R v1 v2).2)) (g4 : ((f_X6_loudest R v1 v2).2) 0 = R 0) : INV (i + 4) ((f_X5_loudest G v1 v2).2) ((f_X6_loudest R v1 v2).2) := by
  refine ⟨g0, ?_⟩
  have h := rel3_fx hV.2 g3 g4
  revert h
  generalize (f_X6_loudest R v1 v2).2 = R2
  intro h
  rcases o8_loudest G v1 v2 with e | ⟨T, e⟩
  · rw [e]; exact h
  · rw [e]; exact rel3_other h (by omega)
theorem inv_loops {i : Nat} {G : GR} {R : SR} (hV : INV i G R) (hi : i + 4 ≤ 2048) (g0 : WFG ((f_X5_loops G).2)) (g1 : RA ((f_X6_loops R).2)) (g2 : RS ((f_X6_loops R).2)) (g3 : FX R ((f_X6_loops R).2)) (g4 : ((f_X6_loops R).2) 0 = R 0) : INV (i + 4) ((f_X5_loops G).2) ((f_X6_loops R).2) := by
  refine ⟨g0, ?_⟩
  have h := rel3_fx hV.2 g3 g4
  revert h
  generalize (f_X6_loops R).2 = R2
  intro h
  obtain ⟨T, e⟩ := o8_loops G
  rw [e]; exact rel3_other h (by omega)
theorem inv_hearers {i : Nat} {G : GR} {R : SR} (hV : INV i G R) (hi : i + 4 ≤ 2048) (v1 : Int32) (g0 : WFG ((f_X5_hearers G v1).2)) (g1 : RA ((f_X6_hearers R v1).2)) (g2 : RS ((f_X6_hearers R v1).2)) (g3 : FX R ((f_X6_hearers R v1).2)) (g4 : ((f_X6_hearers R v1).2) 0 = R 0) : INV (i + 4) ((f_X5_hearers G v1).2) ((f_X6_hearers R v1).2) := by
  refine ⟨g0, ?_⟩
  have h := rel3_fx hV.2 g3 g4
  revert h
  generalize (f_X6_hearers R v1).2 = R2
  intro h
  rcases o8_hearers G v1 with e | ⟨T, e⟩
  · rw [e]; exact h
  · rw [e]; exact rel3_other h (by omega)
theorem inv_outputIn {i : Nat} {G : GR} {R : SR} (hV : INV i G R) (hi : i + 4 ≤ 2048) (v1 v2 : Int32) (g0 : WFG ((f_X5_outputIn G v1 v2).2)) : INV (i + 4) ((f_X5_outputIn G v1 v2).2) ((f_X6_outputIn R v1 v2).2) := ⟨g0, r_outputIn hV.2 v1 v2⟩
theorem inv_cut {i : Nat} {G : GR} {R : SR} (hV : INV i G R) (hi : i + 4 ≤ 2048) (v1 : Int32) (g0 : WFG ((f_X5_cut G v1).2)) (g1 : RA ((f_X6_cut R v1).2)) (g2 : RS ((f_X6_cut R v1).2)) (g3 : FX R ((f_X6_cut R v1).2)) (g4 : ((f_X6_cut R v1).2) 0 = R 0) : INV (i + 4) ((f_X5_cut G v1).2) ((f_X6_cut R v1).2) := by
  refine ⟨g0, ?_⟩
  have h := rel3_fx hV.2 g3 g4
  revert h
  generalize (f_X6_cut R v1).2 = R2
  intro h
  rcases o8_cut G v1 with e | ⟨T, e⟩ | ⟨T, U, e⟩
  · rw [e]; exact h
  · rw [e]; exact rel3_other h (by omega)
  · rw [e]; exact rel3_other (rel3_other h (by omega)) (by omega)
