/-! p29, 3: a fade's step, ticks -/
theorem p117_sane {M : SR} {st tk : Nat} (h : SAN M) (h0 : IN (M 11 0) 5) (h1 : M 11 1 = nI st) (h2 : M 11 2 = nI tk) (hs : st ≤ tk) (ht : tk ≤ 100) : SANE (f_X4_stepFade_p117 M) ∧ (f_X4_stepFade_p117 M) 10 = M 10 := by
  rw [f_X4_stepFade_p117]
  by_cases c : M 11 1 < M 11 2
  · rw [if_pos c]
    rw [h1, h2] at c
    exact ⟨⟨h, h0, st, tk, h1, h2, ht, Or.inl ((nI_ltI (by omega) (by omega)).mp c)⟩, rfl⟩
  · rw [if_neg c, sLet_eq]
    refine ⟨sane_end h h0, ?_⟩
    unfold mFd
    rw [vu_ne (by decide), vu_ne (by decide)]
theorem step_loop {k st tk : Nat} (hk : k < 6) (hs : st ≤ tk) (h0 : 0 < tk) (ht : tk ≤ 100) : ∀ (n j : Nat) (M : SR), n + j = 17 → j ≤ 16 → SAN M → IN (M 11 0) 5 → M 11 1 = nI st → M 11 2 = nI tk → SANE (f_X4_stepFade_p26 n (nI (17 * k)) (nI j) M) ∧ ∀ i : Nat, i ≠ 0 → (f_X4_stepFade_p26 n (nI (17 * k)) (nI j) M) 10 i = M 10 i := by
  intro n
  induction n with
  | zero => intro j M hn hj; omega
  | succ n ih =>
    intro j M hn hj h g0 g1 g2
    rw [f_X4_stepFade_p26]
    by_cases c : (16 : Int32) ≤ nI j
    · rw [if_pos c]
      by_cases d : f_X0_isInTheMiddle M = 0
      · rw [if_pos d]
        obtain ⟨e1, e2⟩ := p117_sane h g0 g1 g2 hs ht
        exact ⟨e1, fun i hi => by rw [e2]⟩
      · rw [if_neg d, sLet_eq]
        generalize ((M 10 0 &&& M 11 3) ||| (M 8 (nI (17 * k) + 16).toNatClampNeg &&& (M 11 3 ^^^ (-1)))) = v
        have hs' : SAN (sU M 10 0 v) := by
          rw [up_sU]
          exact san_10 h (ct_o (s_10 h) (by omega))
        obtain ⟨e1, e2⟩ := p117_sane (M := sU M 10 0 v) hs' (by rw [sU_row (by decide)]; exact g0) (by rw [sU_row (by decide)]; exact g1) (by rw [sU_row (by decide)]; exact g2) hs ht
        exact ⟨e1, fun i hi => by rw [e2, sU_ne hi]⟩
    · have q : j < 16 := lp_ge (x := nI j) rfl (show (16 : Int32) = nI 16 from rfl) (by omega) (by omega) c
      rw [if_neg c, nI_1]
      by_cases d : f_X0_isTouched M (nI j) = 0
      · rw [if_pos d, sLet_eq, nI_add, nI_clamp (show 17 * k + j < 2 ^ 31 by omega), nI_clamp (show j < 2 ^ 31 by omega)]
        obtain ⟨b, b1, b2⟩ := s_8 h k hk j q
        obtain ⟨a, a1, a2⟩ := s_9 h j q
        have hv : IN (f_X0_positionOf M (nI j) (M 8 (17 * k + j))) 100 := by
          rw [f_X0_positionOf, nI_clamp (show j < 2 ^ 31 by omega), a2, b2, g1, g2, if_pos (show (0 : Int32) < nI tk from nI_lt (a := 0) h0 (by omega))]
          exact pos_in a1 b1 hs ht h0
        generalize f_X0_positionOf M (nI j) (M 8 (17 * k + j)) = v at hv ⊢
        have hs' : SAN (sU M 1 j v) := by
          rw [up_sU]
          exact san_1 h (tn_up (s_1 h) hv)
        obtain ⟨e1, e2⟩ := ih (j + 1) (sU M 1 j v) (by omega) (by omega) hs' (by rw [sU_row (by decide)]; exact g0) (by rw [sU_row (by decide)]; exact g1) (by rw [sU_row (by decide)]; exact g2)
        exact ⟨e1, fun i hi => by rw [e2 i hi, sU_row (by decide)]⟩
      · rw [if_neg d]
        exact ih (j + 1) M (by omega) (by omega) h g0 g1 g2
theorem step_sane {M : SR} (h : SANE M) (hg : ¬ f_X0_isGoingOn M = 0) : SANE (f_X4_stepFade M) ∧ ∀ i : Nat, i ≠ 0 → (f_X4_stepFade M) 10 i = M 10 i := by
  obtain ⟨hs, ⟨k, k1, k2⟩, st, tk, h1, h2, h3, h4⟩ := h
  have h0 : 0 < tk := by
    rcases Nat.eq_zero_or_pos tk with e | e
    · subst e
      exact absurd (by rw [f_X0_isGoingOn, h2]; exact if_pos (by decide)) hg
    · exact e
  rw [f_X4_stepFade, sLet_eq, h1, k2, nI_1, show (17 : Int32) = nI 17 from rfl, nI_mul, Nat.mul_comm k 17]
  have hs' : SAN (sU M 11 1 (nI (st + 1))) := by
    rw [up_sU]
    exact san_o hs
  obtain ⟨e1, e2⟩ := step_loop (k := k) (st := st + 1) (tk := tk) (by omega) (by omega) h0 h3 17 0 (sU M 11 1 (nI (st + 1))) (by omega) (by omega) hs' (by rw [sU_ne (by decide), k2]; exact in_n k1) sU_eq (by rw [sU_ne (by decide)]; exact h2)
  rw [nI_0] at e1 e2
  exact ⟨e1, fun i hi => by rw [e2 i hi, sU_row (by decide)]⟩
/-- the sum is not above the peak -/
def MS (M : SR) : Prop := ∃ s q : Nat, M 10 4 = nI s ∧ M 10 5 = nI q ∧ s ≤ q ∧ q ≤ 119988
def PK2 (M N : SR) : Prop := ∃ p q : Nat, M 10 5 = nI p ∧ N 10 5 = nI q ∧ p ≤ q ∧ q ≤ 119988
theorem pk_rf {M : SR} (h : SAN M) : PK2 M M := by
  obtain ⟨p, p1, p2⟩ := (s_10 h).2.1
  exact ⟨p, p, p2, p2, Nat.le_refl p, p1⟩
theorem pk_tr {A B C : SR} (h : PK2 A B) (g : PK2 B C) : PK2 A C := by
  obtain ⟨p, q, h1, h2, h3, h4⟩ := h
  obtain ⟨r, s, g1, g2, g3, g4⟩ := g
  have : q = r := (nI_eq (by omega) (by omega)).mp (h2.symm.trans g1)
  exact ⟨p, s, h1, g2, by omega, g4⟩
theorem tick_sane {M : SR} (h : SANE M) : ∃ N : SR, (∀ (p1 : Int32) (kb : Int32 → SR → SR) (x : Int32), f_X4_goOn_p21 p1 kb x M = kb (x + 1) N) ∧ SANE N ∧ MS N ∧ PK2 M N ∧ N 10 3 = M 10 3 + 1 := by
  obtain ⟨t1, t2⟩ := take_sane h.1
  obtain ⟨m1, m2, m3, s, p, q, m4, m5, m6, m7, m8, m9⟩ := mix_sane t1
  refine ⟨sU (f_X4_mix (f_X4_takeSignals M)) 10 3 ((f_X4_mix (f_X4_takeSignals M)) 10 3 + 1), fun p1 kb x => ?_, ⟨?_, ?_⟩, ⟨s, q, ?_, ?_, m7, m9⟩, ⟨p, q, ?_, ?_, m8, m9⟩, ?_⟩
  · rw [f_X4_goOn_p21, sLet_eq, sLet_eq, sLet_eq]
  · rw [up_sU]
    exact san_10 m1 (ct_o (s_10 m1) (by omega))
  · rw [sU_row (by decide), m2 11 (by decide) (by decide), t2 11 (by decide)]
    exact h.2
  · rw [sU_ne (by decide)]; exact m4
  · rw [sU_ne (by decide)]; exact m6
  · rw [t2 10 (by decide)] at m5; exact m5
  · rw [sU_ne (by decide)]; exact m6
  · rw [sU_eq, m3 3 (by omega), t2 10 (by decide)]
theorem go_loop (p1 : Int32) : ∀ (n : Nat) (x : Int32) (M : SR), SANE M → SANE (f_X4_goOn_p2 p1 n x M) ∧ PK2 M (f_X4_goOn_p2 p1 n x M) ∧ (MS M → MS (f_X4_goOn_p2 p1 n x M)) := by
  intro n
  induction n with
  | zero => intro x M h; exact ⟨h, pk_rf h.1, fun g => g⟩
  | succ n ih =>
    intro x M h
    rw [f_X4_goOn_p2]
    by_cases c : p1 ≤ x
    · rw [if_pos c]; exact ⟨h, pk_rf h.1, fun g => g⟩
    · rw [if_neg c]
      by_cases d : f_X0_isGoingOn M = 0
      · obtain ⟨N, e, n1, n2, n3, -⟩ := tick_sane h
        rw [if_pos d, e]
        obtain ⟨i1, i2, i3⟩ := ih (x + 1) N n1
        exact ⟨i1, pk_tr n3 i2, fun _ => i3 n2⟩
      · obtain ⟨s1, s2⟩ := step_sane h d
        obtain ⟨N, e, n1, n2, n3, -⟩ := tick_sane s1
        rw [if_neg d, sLet_eq, e]
        obtain ⟨i1, i2, i3⟩ := ih (x + 1) N n1
        refine ⟨i1, pk_tr ?_ i2, fun _ => i3 n2⟩
        obtain ⟨p, q, g1, g2, g3⟩ := n3
        exact ⟨p, q, by rw [← s2 5 (by decide)]; exact g1, g2, g3⟩
theorem go_sane {M : SR} (h : SANE M) (t : Nat) : SANE (f_X4_goOn M (nI t)) := by
  rw [f_X4_goOn]
  exact (go_loop (nI t) _ 0 M h).1
theorem go_ms {M : SR} (h : SANE M) {t : Nat} (h0 : 0 < t) (ht : t ≤ 100) : MS (f_X4_goOn M (nI t)) ∧ PK2 M (f_X4_goOn M (nI t)) := by
  rw [f_X4_goOn]
  refine ⟨?_, (go_loop (nI t) _ 0 M h).2.1⟩
  rw [f_X4_goOn_p2, if_neg (show ¬ nI t ≤ 0 from nI_nle h0 (by omega))]
  by_cases d : f_X0_isGoingOn M = 0
  · obtain ⟨N, e, n1, n2, n3, -⟩ := tick_sane h
    rw [if_pos d, e]
    exact (go_loop (nI t) _ _ N n1).2.2 n2
  · obtain ⟨s1, s2⟩ := step_sane h d
    obtain ⟨N, e, n1, n2, n3, -⟩ := tick_sane s1
    rw [if_neg d, sLet_eq, e]
    exact (go_loop (nI t) _ _ N n1).2.2 n2
/-- the ticks so far -/
def TKB (M : SR) (b : Nat) : Prop := ∃ k : Nat, k ≤ b ∧ M 10 3 = nI k
theorem tkb_eq {M N : SR} {b : Nat} (h : TKB M b) (e : N 10 3 = M 10 3) : TKB N b := by
  obtain ⟨k, h1, h2⟩ := h
  exact ⟨k, h1, e.trans h2⟩
theorem tkb_le {M : SR} {a b : Nat} (h : TKB M a) (hb : a ≤ b) : TKB M b := by
  obtain ⟨k, h1, h2⟩ := h
  exact ⟨k, by omega, h2⟩
theorem go_tk (p1 : Int32) : ∀ (n b : Nat) (x : Int32) (M : SR), SANE M → TKB M b → TKB (f_X4_goOn_p2 p1 n x M) (b + n) := by
  intro n
  induction n with
  | zero => intro b x M h t; exact t
  | succ n ih =>
    intro b x M h t
    rw [f_X4_goOn_p2]
    by_cases c : p1 ≤ x
    · rw [if_pos c]; exact tkb_le t (by omega)
    · rw [if_neg c]
      have go : ∀ M' : SR, SANE M' → M' 10 3 = M 10 3 → TKB (f_X4_goOn_p21 p1 (f_X4_goOn_p2 p1 n) x M') (b + (n + 1)) := fun M' h' e' => by
        obtain ⟨N, e, n1, -, -, n4⟩ := tick_sane h'
        obtain ⟨k, k1, k2⟩ := t
        rw [e, show b + (n + 1) = b + 1 + n by omega]
        exact ih (b + 1) (x + 1) N n1 ⟨k + 1, by omega, by rw [n4, e', k2, nI_1]⟩
      by_cases d : f_X0_isGoingOn M = 0
      · rw [if_pos d]; exact go M h rfl
      · obtain ⟨s1, s2⟩ := step_sane h d
        rw [if_neg d, sLet_eq]
        exact go _ s1 (s2 3 (by decide))
theorem go_tkb {M : SR} (h : SANE M) {b t : Nat} (ht : t < 2 ^ 31) (k : TKB M b) : TKB (f_X4_goOn M (nI t)) (b + (t + 1)) := by
  rw [f_X4_goOn, nI_clamp ht]
  exact go_tk (nI t) (t + 1) b 0 M h k
