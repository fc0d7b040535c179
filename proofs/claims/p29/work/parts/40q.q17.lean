/-! p29, 17: the law -/
theorem sane_S0 : SANE S0 := by
  refine ⟨⟨fun j _ => (show IN (0 : Int32) 1000 from in_0), ?_, fun j _ => (show IN (0 : Int32) 15 from in_0), fun j _ => (show IN (0 : Int32) 100 from in_0), fun j _ => (show vp_in (0 : Int32) 4096 from vp_of_B (by decide +kernel)), ⟨fun j hj => Or.inl ?_, fun i j hi hj hij e => ?_⟩, fun j _ => (show IN (0 : Int32) 9999 from in_0), fun j _ => (show IN (0 : Int32) 9999 from in_0), fun k hk j hj => (show IN (0 : Int32) 100 from in_0), fun j _ => (show IN (0 : Int32) 100 from in_0), ⟨(show IN (0 : Int32) 119988 from in_0), (show IN (0 : Int32) 119988 from in_0), (show IN (0 : Int32) 63 from in_0)⟩⟩, (show IN (0 : Int32) 5 from in_0), 0, 0, nI_0.symm, nI_0.symm, by omega, Or.inr ⟨rfl, rfl⟩⟩
  · intro j hj
    rcases (show j < 12 ∨ (12 ≤ j ∧ j < 16) by omega) with q | ⟨q1, q2⟩
    · exact ⟨0, by omega, (by decide +kernel : ∀ j : Nat, j < 12 → rowSl j = nI 0) j q⟩
    · exact ⟨100, by omega, (by decide +kernel : ∀ j : Nat, j < 16 → 12 ≤ j → rowSl j = nI 100) j q2 q1⟩
  · exact (by decide +kernel : ∀ j : Nat, j < 4 → rowRt j = -1) j hj
  · exact (by decide +kernel : ∀ j : Nat, j < 4 → rowRt j = -1) i hi
theorem desk_0 : DESK G0 := by
  refine ⟨fun k hk => ?_, 0, 0, by omega, by omega, by decide +kernel, by decide +kernel⟩
  have e : G0 k = S0 := if_pos hk
  rw [e]
  exact sane_S0
/-- between two rounds of the law -/
def LI (b : Nat) (G : GR) : Prop := DESK G ∧ TKB (G 0) b ∧ (G 9) 1 0 = 0
theorem li_sim {b : Nat} {G H : GR} (h : LI b G) (s : SIM G H) : LI b H := ⟨sim_desk h.1 s, by rw [sim_0 s]; exact h.2.1, by rw [sim_9 s]; exact h.2.2⟩
theorem li_now {b : Nat} {G H : GR} (h : LI b G) (d : DESK H) (e0 : H 0 = G 0) (e9 : H 9 = G 9) : LI b H := ⟨d, by rw [e0]; exact h.2.1, by rw [e9]; exact h.2.2⟩
/-- undo brings back -/
theorem undo_ok {A : SR} {G : GR} (h : DESK G) (u : UN A G) : DESK (f_X5_undo G).2 ∧ (f_X5_undo G).2 0 = A ∧ (f_X5_undo G).2 9 = G 9 ∧ ¬ (f_X5_undo G).1 < 0 := by
  obtain ⟨h1, h2, h3, z, z1, z2⟩ := undo_un h u
  exact ⟨h1, h2, h3, by rw [z2]; exact nI_pos (by omega)⟩
/-- the cut's part -/
theorem l_230 {L : Nat} {xs : Nat → Int32} {kb : Int32 → GR → (Int32 × GR)} {t f b : Nat} {G : GR} (h : LI b G) (hf : f < 4) : ∃ G' : GR, LI b G' ∧ f_L_law_p230 L xs kb (nI t) (nI f) G = kb (nI (t + 1)) G' := by
  obtain ⟨c1, c2⟩ := cut_1 h.1 hf
  rw [f_L_law_p230, sLet_eq, nI_1]
  have l1 := li_sim h c2
  have e1 := sim_0 c2
  generalize (f_X5_cut G (nI f)).2 = G1 at c2 l1 e1 ⊢
  generalize (f_X5_cut G (nI f)).1 = r at c1 ⊢
  by_cases q : r < 0
  · rw [if_pos q]; exact ⟨G1, l1, rfl⟩
  · rw [if_neg q]
    obtain ⟨s, c, hs, hc, er, hb, hq⟩ : ∃ s c : Nat, s < 4 ∧ c < 12 ∧ r = nI (100 * s + c) ∧ bt (mkm (G 0) c) s ∧ QUIET (CU (G 0) s c) f := by
      rcases c1 with ⟨z, -⟩ | ⟨-, z | z⟩
      · exact absurd (show r < 0 by rw [z]; decide) q
      · exact absurd (show r < 0 by rw [z]; decide) q
      · exact z
    have ed : r / 100 = nI s := by
      rw [er, show (100 : Int32) = nI 100 from rfl, pk_div (by omega) (by omega) (by omega), show (100 * s + c) / 100 = s by omega]
    have em : r - r / 100 * 100 = nI c := by
      rw [ed, er, show (100 : Int32) = nI 100 from rfl, nI_mul, nI_sub (by omega), show 100 * s + c - s * 100 = c by omega]
    rw [em, ed, sLet_eq]
    have hw : ¬ f_X5_isWithin 0 0 100 = 0 := by decide
    have hne := cut_send (M := G 0) hs hc hb
    obtain ⟨v, v1, v2⟩ := s_3 (h.1.1 0 (by omega)).1 (12 * s + c) (by omega)
    have hv : 0 < v := by
      rcases Nat.eq_zero_or_pos v with z | z
      · subst z; exact absurd (v2.trans nI_0) hne
      · exact z
    obtain ⟨k1, k2, k3, k4, k5⟩ := keep_desk l1.1
    have eS : f_X5_setSend G1 (nI s) (nI c) 0 = (nI v, va_up (f_X1_keep G1) 0 (CU (G 0) s c)) := by
      rw [f_X5_setSend, if_neg (b4 s hs), if_neg (b12 c hc), if_neg hw, sLet_eq, sLet_eq, six s hs c hc, k3, e1, v2]
      rfl
    have dS : DESK (va_up (f_X1_keep G1) 0 (CU (G 0) s c)) := desk_s k1 (by omega) (by
      have hh := h.1.1 0 (by omega)
      unfold CU
      rw [up_sU]
      exact sane_v hh (by decide) (san_3 hh.1 (tn_up (s_3 hh.1) in_0)))
    have uS : UN (G1 0) (va_up (f_X1_keep G1) 0 (CU (G 0) s c)) := un_o k2 (by omega)
    have nS : (va_up (f_X1_keep G1) 0 (CU (G 0) s c)) 0 = CU (G 0) s c := vu_eq
    have tS : (va_up (f_X1_keep G1) 0 (CU (G 0) s c)) 9 = G1 9 := by rw [vu_ne (by decide)]; exact k5
    rw [eS]
    dsimp only
    generalize va_up (f_X1_keep G1) 0 (CU (G 0) s c) = G2 at dS uS nS tS ⊢
    rw [if_neg (show ¬ nI v < 1 from nI_nlt (b := 1) hv (by omega)), sLet_eq]
    obtain ⟨m, m1, m2, m3, -, m5⟩ := hear_m dS hf
    rw [nS] at m5
    rw [if_pos (show (f_X5_hearers G2 (nI f)).1 = 0 by rw [m2, m5.mpr hq]; exact nI_0), sLet_eq]
    have d3 := sim_desk dS m3
    have u3 := sim_un uS m3
    have t3 := sim_9 m3
    generalize (f_X5_hearers G2 (nI f)).2 = G3 at d3 u3 t3 ⊢
    obtain ⟨w1, w2, w3, w4⟩ := undo_ok d3 u3
    rw [if_neg w4, if_pos (dig_cmp w2)]
    exact ⟨_, li_now l1 w1 w2 (w3.trans (t3.trans tS)), rfl⟩
/-- undone, and done again -/
theorem l_173 {L : Nat} {xs : Nat → Int32} {kb : Int32 → GR → (Int32 × GR)} {t f b : Nat} {y : Int32} {op : GR → Int32 × GR} (a : ACT y op) {A G G0' : GR} (hA : DESK A) (h0 : G0' 0 = A 0) (h : LI b G) (e : G 0 = (op A).2 0) (u : ¬ (op A).1 < 0 → UN (A 0) G) (hf : f < 4) : ∃ G' : GR, LI b G' ∧ f_L_law_p173 L xs kb (nI t) y (f_L_digest G0') (nI f) (op A).1 G = kb (nI (t + 1)) G' := by
  rw [f_L_law_p173]
  by_cases q : (op A).1 < 0
  · rw [if_pos q]; exact l_230 h hf
  · rw [if_neg q]
    by_cases q2 : (nI t &&& 3) = 2
    · rw [if_pos q2, sLet_eq]
      obtain ⟨w1, w2, w3, w4⟩ := undo_ok h.1 (u q)
      rw [if_neg w4, if_pos (dig_cmp (w2.trans h0.symm)), sLet_eq, a.1]
      generalize (f_X5_undo G).2 = U at w1 w2 w3 ⊢
      obtain ⟨d1, d2⟩ := act_det a w1 hA w2
      obtain ⟨p1, -, -, p4, -⟩ := act_desk a w1
      have eU : (op U).2 0 = G 0 := d2.trans e.symm
      rw [if_pos d1, if_pos (dig_cmp eU)]
      exact l_230 (li_now h p1 eU (p4.trans w3)) hf
    · rw [if_neg q2]; exact l_230 h hf
theorem l_step {L : Nat} {xs : Nat → Int32} {n t b : Nat} {G : GR} (ht : t < 18) (h : LI b G) (hb : b + 100 ≤ 10000) : ∃ G' : GR, LI (b + 101) G' ∧ f_L_law_p10 L xs (n + 1) (nI t) G = f_L_law_p10 L xs n (nI (t + 1)) G' := by
  rw [f_L_law_p10, if_neg (show ¬ (18 : Int32) ≤ nI t from nI_ge (b := 18) ht (by omega)), sLet_eq]
  generalize f_L_cell L xs (nI t) = y
  generalize f_L_law_p10 L xs n = kb
  obtain ⟨f, hf, ef⟩ := and3 (y >>> (6 &&& 31))
  obtain ⟨w, hw, ew⟩ := low_in (y >>> (4 &&& 31)) (n := 9) (by omega) (by omega)
  have ew : f_L_low (y >>> (4 &&& 31)) 9 = nI w := ew
  have et : (1 : Int32) + nI w = nI (1 + w) := nI_add 1 w
  obtain ⟨o1, o2⟩ := out_1 h.1 (t := 1 + w) hf (by omega)
  obtain ⟨op, a⟩ := act_op y
  rw [ef, ew, et, o1]
  have l1 := li_sim h o2
  have e1 := sim_0 o2
  generalize (f_X5_outputIn G (nI f) (nI (1 + w))).2 = A at l1 e1 ⊢
  rw [a.1, v_c2, e1, sLet_eq]
  obtain ⟨p1, p2, p3, p4, p5⟩ := act_desk a l1.1
  have l2 : LI (b + 101) (op A).2 := ⟨p1, p5 b l1.2.1, by rw [p4]; exact l1.2.2⟩
  have hrun : (y &&& 15) = 15 → (op A).2 0 = f_X4_goOn (G 0) (nI (1 + w)) ∧ (op A).1 = (f_X4_goOn (G 0) (nI (1 + w))) 10 4 := fun z => by
    rw [a.2.2 z, ew, et, ← e1]
    exact run_ok l1.1 l1.2.1 (by omega) (by omega) (by omega)
  have t111 : ∃ G' : GR, LI (b + 101) G' ∧ f_L_law_p111 L xs kb (nI t) y (f_L_digest G) (nI f) (f_X4_goOn (G 0) (nI (1 + w)) 7 f) ((G 0) 10 5) (op A).1 (op A).2 = kb (nI (t + 1)) G' := by
    obtain ⟨r1, r2⟩ := all_right l2.1
    have l3 := li_sim l2 r2
    have e3 := sim_0 r2
    rw [f_L_law_p111, sLet_eq, r1, if_neg (show ¬ (1 : Int32) = 0 by decide)]
    have fin := l_173 (L := L) (xs := xs) (kb := kb) (t := t) a l1.1 e1.symm l3 e3 (fun z => sim_un (p2 z) r2) hf
    generalize (f_L_isRight (op A).2).2 = B at e3 fin ⊢
    by_cases q : (y &&& 15) = 15
    · obtain ⟨g1, g2⟩ := hrun q
      have eB : B 0 = f_X4_goOn (G 0) (nI (1 + w)) := e3.trans g1
      obtain ⟨⟨s, pk, m1, m2, m3, m4⟩, k, pk', n1, n2, n3, n4⟩ := go_ms (h.1.1 0 (by omega)) (t := 1 + w) (by omega) (by omega)
      have epk : pk = pk' := (nI_eq (by omega) (by omega)).mp (m2.symm.trans n2)
      rw [if_pos q, v_feed2 hf, eB, if_pos rfl, v_c1, eB, if_pos g2, v_c2, eB, if_neg (show ¬ (f_X4_goOn (G 0) (nI (1 + w))) 10 5 < (G 0) 10 5 by rw [n1, n2]; exact nI_nlt n3 (by omega)), if_pos (show (op A).1 ≤ (f_X4_goOn (G 0) (nI (1 + w))) 10 5 by rw [g2, m1, m2]; exact nI_le m3 (by omega))]
      exact fin
    · rw [if_neg q]; exact fin
  have t101 : (op A).2 0 = A 0 → ∃ G' : GR, LI (b + 101) G' ∧ f_L_law_p101 L xs kb (nI t) y (f_L_digest G) (nI f) (f_X4_goOn (G 0) (nI (1 + w)) 7 f) ((G 0) 10 5) (op A).1 (op A).2 = kb (nI (t + 1)) G' := fun z => by
    rw [f_L_law_p101, if_pos (dig_cmp (z.trans e1))]
    exact t111
  have t87 : ∃ G' : GR, LI (b + 101) G' ∧ f_L_law_p87 L xs kb (nI t) y (f_L_digest G) (nI f) (f_X4_goOn (G 0) (nI (1 + w)) 7 f) ((G 0) 10 5) (op A).1 (op A).2 = kb (nI (t + 1)) G' := by
    rw [f_L_law_p87]
    by_cases q : (op A).1 = -2
    · rw [if_pos q]; exact t101 (p3 (Or.inr (Or.inl q)))
    · rw [if_neg q]
      by_cases q2 : (op A).1 = -3
      · rw [if_pos q2]; exact t101 (p3 (Or.inr (Or.inr q2)))
      · rw [if_neg q2]; exact t111
  by_cases q : (op A).1 = -1
  · rw [if_pos q]
    by_cases q2 : (y &&& 15) < 10
    · rw [if_pos q2]; exact t101 (p3 (Or.inl ⟨q, q2⟩))
    · rw [if_neg q2]; exact t87
  · rw [if_neg q]; exact t87
/-! the end: errors, an empty patch -/
theorem skip_0 {P : SR} (h : P 1 0 = 0) : f_X2_skipSpaces (sU P 1 1 0) = sU P 1 1 0 := by
  rw [f_X2_skipSpaces, f_X2_skipSpaces_p0, if_pos (show (sU P 1 1 0) 1 0 ≤ (sU P 1 1 0) 1 1 by rw [sU_eq, sU_ne (by decide), h]; decide)]
theorem carry_0 {P M : SR} (h : P 1 0 = 0) : f_X2_carryOutOn P M = (0, sU P 1 1 0, M) := by
  rw [f_X2_carryOutOn, sLet_eq, f_X2_carryOutOn_p7, if_neg (show ¬ (140 : Int32) ≤ 0 by decide), sLet_eq, skip_0 h, if_neg (show ¬ (sU P 1 1 0) 1 1 < (sU P 1 1 0) 1 0 by rw [sU_eq, sU_ne (by decide), h]; decide)]
theorem load_0 {G : GR} (h : DESK G) (h9 : (G 9) 1 0 = 0) : (f_X5_load G).1 = 0 ∧ (f_X5_load G).2 0 = G 0 := by
  have c9 := carry_0 (P := G 9) (M := G 0) h9
  rw [f_X5_load, sLet_eq, vu_ne (show 9 ≠ 1 by decide), vu_eq, c9]
  dsimp only
  rw [sLet_eq, sLet_eq, if_pos (show (0 : Int32) ≤ 0 by decide), sLet_eq, sLet_eq, sLet_eq]
  dsimp only
  have dX : DESK (va_up (va_up (va_up G 1 (G 0)) 9 (sU (G 9) 1 1 0)) 1 (G 0)) := desk_s (desk_o (desk_s h (by omega) (h.1 0 (by omega))) (by omega)) (by omega) (h.1 0 (by omega))
  have k1 := (keep_desk dX).2.2.2.1
  refine ⟨rfl, ?_⟩
  rw [vu_ne (by decide), vu_eq, k1, vu_eq]
theorem l_end {L : Nat} {xs : Nat → Int32} {n b : Nat} {G : GR} (h : LI b G) : (f_L_law_p10 L xs (n + 1) (nI 18) G).1 = 1 := by
  have e1 : ∀ H : GR, f_X5_setChannel H 12 0 0 = (-1, H) := fun H => by rw [f_X5_setChannel, if_pos (by decide +kernel)]
  have e2 : ∀ H : GR, f_X5_setChannel H 0 0 1001 = (-1, H) := fun H => by rw [f_X5_setChannel, if_neg (by decide +kernel), if_neg (by decide +kernel), if_pos (by decide +kernel)]
  have e3 : ∀ H : GR, f_X5_setGroup H 0 1 2 = (-1, H) := fun H => by rw [f_X5_setGroup, if_neg (by decide +kernel), if_neg (by decide +kernel), if_pos (by decide +kernel)]
  have e4 : ∀ H : GR, f_X5_setSend H 0 0 101 = (-1, H) := fun H => by rw [f_X5_setSend, if_neg (by decide +kernel), if_neg (by decide +kernel), if_pos (by decide +kernel)]
  have e5 : ∀ H : GR, f_X5_setReturn H 0 12 = (-1, H) := fun H => by rw [f_X5_setReturn, if_neg (by decide +kernel), if_pos (by decide +kernel)]
  have e6 : ∀ H : GR, f_X5_recall H 6 0 = (-1, H) := fun H => by rw [f_X5_recall, if_pos (by decide +kernel)]
  have e7 : ∀ H : GR, f_X5_run H 0 = (-1, H) := fun H => by rw [f_X5_run, if_pos (by decide +kernel)]
  have e8 : ∀ H : GR, f_X5_path H 0 0 (-2) = (-1, H) := fun H => by rw [f_X5_path, if_neg (by decide +kernel), if_neg (by decide +kernel), if_neg (by decide +kernel)]
  have e9 : ∀ H : GR, (f_X5_cut H 4).1 = -1 := fun H => by rw [f_X5_cut, if_pos (by decide +kernel)]
  have e10 : ∀ H : GR, f_X5_count H 11 = -1 := fun H => by rw [f_X5_count, if_neg (by decide), if_neg (by decide), if_neg (by decide), if_neg (by decide), if_neg (by decide), if_neg (by decide), if_neg (by decide), if_neg (by decide), if_neg (by decide), if_neg (by decide), if_neg (by decide)]
  obtain ⟨l1, l2⟩ := load_0 h.1 h.2.2
  rw [f_L_law_p10, if_pos (show (18 : Int32) ≤ nI 18 by decide)]
  dsimp only [sLet]
  simp only [e1, e2, e3, e4, e5, e6, e7, e8, if_true, dig_cmp rfl]
  rw [if_pos l1, if_pos (dig_cmp l2), if_pos (e10 _), if_pos (e9 _)]
theorem l_all {L : Nat} {xs : Nat → Int32} : ∀ (n t b : Nat) (G : GR), n + t = 18 → LI b G → b + 101 * n ≤ 10000 → (f_L_law_p10 L xs (n + 1) (nI t) G).1 = 1 := by
  intro n
  induction n with
  | zero =>
    intro t b G hn h hb
    have e : t = 18 := by omega
    subst e
    exact l_end h
  | succ n ih =>
    intro t b G hn h hb
    obtain ⟨G', l1, l2⟩ := l_step (L := L) (xs := xs) (n := n + 1) (t := t) (by omega) h (by omega)
    rw [l2]
    exact ih (t + 1) (b + 101) G' (by omega) l1 (by omega)
theorem law_is_1 (L : Nat) (xs : Nat → Int32) : (f_L_law_p10 L xs 19 0 G0).1 = 1 := by
  have h := l_all (L := L) (xs := xs) 18 0 0 G0 (by omega) ⟨desk_0, ⟨0, by omega, by decide +kernel⟩, by decide +kernel⟩ (by omega)
  rw [nI_0] at h
  exact h
