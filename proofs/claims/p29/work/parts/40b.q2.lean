/-! p29, 2: levels, gains, a tick -/
theorem ix12 : ∀ g : Nat, g < 4 → (12 + nI g).toNatClampNeg = 12 + g := by decide +kernel
theorem six : ∀ f : Nat, f < 4 → ∀ c : Nat, c < 12 → (f_X5_sendIndex (nI f) (nI c)).toNatClampNeg = 12 * f + c := by decide +kernel
theorem hundredth {l m : Nat} (hm : m ≤ 100) : l * m / 100 ≤ l := by
  refine Nat.div_le_of_le_mul ?_
  rw [Nat.mul_comm 100 l]
  exact Nat.mul_le_mul (Nat.le_refl l) hm
theorem lev_loop {M : SR} (h : TN (M 1) 16 100) (p : Int32) : ∀ n g l : Nat, n + g < 100 → l ≤ 100 → ∃ k : Nat, k ≤ l ∧ f_X4_levelOf_p30 M p n (nI l) (nI g) = nI k := by
  intro n
  induction n with
  | zero => intro g l hg hl; exact ⟨0, by omega, nI_0.symm⟩
  | succ n ih =>
    intro g l hg hl
    rw [f_X4_levelOf_p30]
    by_cases c : (4 : Int32) ≤ nI g
    · rw [if_pos c]; exact ⟨l, Nat.le_refl l, rfl⟩
    · rw [if_neg c, nI_1]
      by_cases d : f_X5_hasBit (M 2 p.toNatClampNeg) (nI g) = 0
      · rw [if_pos d]; exact ih (g + 1) l (by omega) hl
      · rw [if_neg d]
        have q : g < 4 := lp_ge (x := nI g) rfl (show (4 : Int32) = nI 4 from rfl) (by omega) (by omega) c
        obtain ⟨m, m1, m2⟩ := h (12 + g) (by omega)
        have hp : l * m ≤ 100 * 100 := Nat.mul_le_mul hl m1
        rw [ix12 g q, m2, nI_mul, show (100 : Int32) = nI 100 from rfl, pk_div (by omega) (by omega) (by omega)]
        have hh := hundredth (l := l) m1
        obtain ⟨k, k1, k2⟩ := ih (g + 1) (l * m / 100) (by omega) (by omega)
        exact ⟨k, by omega, k2⟩
/-- a level, below its slider -/
theorem lev {M : SR} (h : TN (M 1) 16 100) {c : Nat} (hc : c < 12) : ∃ s l : Nat, s ≤ 100 ∧ l ≤ s ∧ M 1 c = nI s ∧ f_X4_levelOf M (nI c) = nI l := by
  obtain ⟨s, s1, s2⟩ := h c (by omega)
  rw [f_X4_levelOf]
  by_cases a : f_X5_hasBit (M 10 0) (nI c) = 0
  · rw [if_pos a]
    by_cases b : f_X4_isSoloedAway M (nI c) = 0
    · rw [if_pos b, nI_clamp (by omega), s2]
      obtain ⟨l, l1, l2⟩ := lev_loop h (nI c) 5 0 s (by omega) s1
      rw [nI_0] at l2
      exact ⟨s, l, s1, l1, rfl, l2⟩
    · rw [if_neg b]; exact ⟨s, 0, s1, by omega, s2, nI_0.symm⟩
  · rw [if_neg a]; exact ⟨s, 0, s1, by omega, s2, nI_0.symm⟩
theorem gain_at {M : SR} (h : TN (M 3) 48 100) {f c l : Nat} (hf : f < 4) (hc : c < 12) (hl : l ≤ 100) : ∃ k : Nat, k ≤ l ∧ f_X4_gainAt M (nI f) (nI c) (nI l) = nI k := by
  rw [f_X4_gainAt, six f hf c hc]
  by_cases a : f_X5_hasBit (M 4 (nI f).toNatClampNeg) (nI c) = 0
  · obtain ⟨m, m1, m2⟩ := h (12 * f + c) (by omega)
    have hp : l * m ≤ 100 * 100 := Nat.mul_le_mul hl m1
    rw [if_pos a, m2, nI_mul, show (100 : Int32) = nI 100 from rfl, pk_div (by omega) (by omega) (by omega)]
    exact ⟨l * m / 100, hundredth m1, rfl⟩
  · rw [if_neg a]; exact ⟨0, by omega, nI_0.symm⟩
theorem up_sU (M : SR) (r k : Nat) (v : Int32) : sU M r k v = va_up M r (upd (M r) k v) := rfl
theorem take_loop : ∀ (n f : Nat) (M : SR), n + f < 100 → SAN M → SAN (f_X4_takeSignals_p17 n (nI f) M) ∧ ∀ r : Nat, r ≠ 6 → (f_X4_takeSignals_p17 n (nI f) M) r = M r := by
  intro n
  induction n with
  | zero => intro f M hn h; exact ⟨h, fun _ _ => rfl⟩
  | succ n ih =>
    intro f M hn h
    rw [f_X4_takeSignals_p17]
    by_cases c : (4 : Int32) ≤ nI f
    · rw [if_pos c]; exact ⟨h, fun _ _ => rfl⟩
    · have q : f < 4 := lp_ge (x := nI f) rfl (show (4 : Int32) = nI 4 from rfl) (by omega) (by omega) c
      rw [if_neg c, nI_1, nI_clamp (by omega)]
      by_cases d : M 5 f < 0
      · rw [if_pos d]; exact ih (f + 1) M (by omega) h
      · rw [if_neg d, sLet_eq]
        have h' := h
        obtain ⟨a0, a1, a2, a3, a4, a5, a6, a7, a8, a9, a10⟩ := h
        rcases a5.1 f q with e | ⟨k, k1, k2⟩
        · exact absurd (by rw [e]; decide) d
        · rw [k2, nI_clamp (by omega)]
          obtain ⟨x, x1, x2⟩ := a6 k (by omega)
          obtain ⟨y, y1, y2⟩ := a7 f q
          have hv : IN (if 9999 < (M 6 k + M 7 f) then 9999 else (M 6 k + M 7 f)) 9999 := by
            rw [x2, y2, nI_add]
            by_cases z : 9999 < nI (x + y)
            · rw [if_pos z]; exact in_n (k := 9999) (by omega)
            · rw [if_neg z]
              have : ¬ 9999 < x + y := fun u => z (nI_lt (a := 9999) u (by omega))
              exact in_n (by omega)
          have hs := san_6 h' (tn_up (k := k) a6 hv)
          rw [← up_sU] at hs
          obtain ⟨i1, i2⟩ := ih (f + 1) _ (by omega) hs
          exact ⟨i1, fun r hr => (i2 r hr).trans (sU_row hr)⟩
theorem take_sane {M : SR} (h : SAN M) : SAN (f_X4_takeSignals M) ∧ ∀ r : Nat, r ≠ 6 → (f_X4_takeSignals M) r = M r := by
  rw [f_X4_takeSignals, sLet_eq]
  have hs : SAN (sR M 6 (M 0)) := san_6 h (fun j hj => in_le (h.1 j hj) (by omega))
  obtain ⟨i1, i2⟩ := take_loop 5 0 _ (by omega) hs
  rw [nI_0] at i1 i2
  exact ⟨i1, fun r hr => (i2 r hr).trans (vu_ne hr)⟩
theorem clip_loop : ∀ (n f : Nat) (M : SR), n + f = 5 → f ≤ 4 → (∀ j : Nat, j < 4 → IN (M 7 j) 119988) → (∀ j : Nat, j < f → IN (M 7 j) 9999) → TN ((f_X4_clip_p2 n (nI f) M) 7) 4 9999 ∧ (∀ r : Nat, r ≠ 7 → r ≠ 10 → (f_X4_clip_p2 n (nI f) M) r = M r) ∧ ∀ k : Nat, k ≠ 6 → (f_X4_clip_p2 n (nI f) M) 10 k = M 10 k := by
  intro n
  induction n with
  | zero => intro f M hn hf; omega
  | succ n ih =>
    intro f M hn hf h1 h2
    rw [f_X4_clip_p2]
    by_cases c : (4 : Int32) ≤ nI f
    · have e : f = 4 := by
        have := (nI_leI (a := 4) (b := f) (by omega) (by omega)).mp c
        omega
      subst e
      rw [if_pos c]; exact ⟨h2, fun _ _ _ => rfl, fun _ _ => rfl⟩
    · have q : f < 4 := lp_ge (x := nI f) rfl (show (4 : Int32) = nI 4 from rfl) (by omega) (by omega) c
      rw [if_neg c, nI_1, nI_clamp (by omega)]
      by_cases d : M 7 f ≤ 9999
      · rw [if_pos d]
        refine ih (f + 1) M (by omega) (by omega) h1 (fun j hj => ?_)
        by_cases e : j = f
        · subst e
          obtain ⟨k, k1, k2⟩ := h1 j q
          rw [k2] at d ⊢
          exact in_n ((nI_leI (b := 9999) (by omega) (by omega)).mp d)
        · exact h2 j (by omega)
      · rw [if_neg d, sLet_eq, sLet_eq]
        obtain ⟨i1, i2, i3⟩ := ih (f + 1) (sU (sU M 7 f 9999) 10 6 ((sU M 7 f 9999) 10 6 + 1)) (by omega) (by omega) (fun j hj => by
          rw [sU_row (by decide)]
          by_cases e : j = f
          · subst e; rw [sU_eq]; exact in_n (k := 9999) (by omega)
          · rw [sU_ne e]; exact h1 j hj) (fun j hj => by
          rw [sU_row (by decide)]
          by_cases e : j = f
          · subst e; rw [sU_eq]; exact in_n (k := 9999) (by omega)
          · rw [sU_ne e]; exact h2 j (by omega))
        exact ⟨i1, fun r h7 h10 => by rw [i2 r h7 h10, sU_row h10, sU_row h7], fun k hk => by rw [i3 k hk, sU_ne hk, sU_row (by decide)]⟩
/-- within the mix: nothing but outputs and the sum has changed -/
def MX (A : SR) (b : Nat) (M : SR) : Prop := (∀ r : Nat, r ≠ 7 → r ≠ 10 → M r = A r) ∧ (∀ k : Nat, k ≠ 4 → M 10 k = A 10 k) ∧ (∀ j : Nat, j < 4 → IN (M 7 j) b) ∧ IN (M 10 4) b
theorem mix_61 {A : SR} (hA : SAN A) (kb : Int32 → SR → SR) {c l b : Nat} (hc : c < 12) (hl : l ≤ 100) (hb : b ≤ 109989) : ∀ (n f : Nat) (M : SR), n + f = 5 → f ≤ 4 → (∀ r : Nat, r ≠ 7 → r ≠ 10 → M r = A r) → (∀ k : Nat, k ≠ 4 → M 10 k = A 10 k) → (∀ j : Nat, j < f → IN (M 7 j) (b + 9999)) → (∀ j : Nat, j < 4 → f ≤ j → IN (M 7 j) b) → IN (M 10 4) (b + 9999) → ∃ M' : SR, f_X4_mix_p61 kb n (nI c) (nI l) (nI f) M = kb (nI (c + 1)) M' ∧ MX A (b + 9999) M' := by
  intro n
  induction n with
  | zero => intro f M hn hf; omega
  | succ n ih =>
    intro f M hn hf h1 h2 h3 h4 h5
    rw [f_X4_mix_p61]
    by_cases q4 : (4 : Int32) ≤ nI f
    · have e : f = 4 := by
        have := (nI_leI (a := 4) (b := f) (by omega) (by omega)).mp q4
        omega
      subst e
      rw [if_pos q4, nI_1]
      exact ⟨M, rfl, h1, h2, h3, h5⟩
    · have q : f < 4 := lp_ge (x := nI f) rfl (show (4 : Int32) = nI 4 from rfl) (by omega) (by omega) q4
      obtain ⟨a0, a1, a2, a3, a4, a5, a6, a7, a8, a9, a10⟩ := hA
      obtain ⟨g, g1, g2⟩ := gain_at (M := M) (by rw [h1 3 (by decide) (by decide)]; exact a3) q hc hl
      obtain ⟨x, x1, x2⟩ := a6 c hc
      obtain ⟨y, y1, y2⟩ := h4 f q (Nat.le_refl f)
      have hp : x * g ≤ 9999 * 100 := Nat.mul_le_mul x1 (by omega)
      have hd := hundredth (l := x) (m := g) (by omega)
      rw [if_neg q4, sLet_eq, nI_1, nI_clamp (show f < 2 ^ 31 by omega), nI_clamp (show c < 2 ^ 31 by omega), g2, h1 6 (by decide) (by decide), x2, y2, nI_mul, show (100 : Int32) = nI 100 from rfl, pk_div (by omega) (by omega) (by omega), nI_add]
      refine ih (f + 1) _ (by omega) (by omega) (fun r r7 r10 => by rw [sU_row r7]; exact h1 r r7 r10) (fun k hk => by rw [sU_row (by decide)]; exact h2 k hk) (fun j hj => ?_) (fun j hj hf' => ?_) (by rw [sU_row (by decide)]; exact h5)
      · by_cases e : j = f
        · subst e; rw [sU_eq]; exact in_n (by omega)
        · rw [sU_ne e]; exact h3 j (by omega)
      · rw [sU_ne (by omega)]; exact h4 j hj (by omega)
/-- behind the channels -/
def mxT (M : SR) : SR := sU (f_X4_clip M) 10 5 (if ((f_X4_clip M) 10 5) < ((f_X4_clip M) 10 4) then ((f_X4_clip M) 10 4) else ((f_X4_clip M) 10 5))
theorem mix_27 {A : SR} (hA : SAN A) : ∀ (n c : Nat) (M : SR), n + c = 13 → c ≤ 12 → MX A (9999 * c) M → ∃ M' : SR, f_X4_mix_p27 n (nI c) M = mxT M' ∧ MX A 119988 M' := by
  intro n
  induction n with
  | zero => intro c M hn hc; omega
  | succ n ih =>
    intro c M hn hc h
    rw [f_X4_mix_p27]
    by_cases q12 : (12 : Int32) ≤ nI c
    · have e : c = 12 := by
        have := (nI_leI (a := 12) (b := c) (by omega) (by omega)).mp q12
        omega
      subst e
      rw [if_pos q12, sLet_eq, sLet_eq]
      exact ⟨M, rfl, h⟩
    · have q : c < 12 := lp_ge (x := nI c) rfl (show (12 : Int32) = nI 12 from rfl) (by omega) (by omega) q12
      obtain ⟨h1, h2, h3, h4⟩ := h
      obtain ⟨s, l, s1, l1, l2, l3⟩ := lev (M := M) (by rw [h1 1 (by decide) (by decide)]; exact s_1 hA) q
      obtain ⟨x, x1, x2⟩ := s_6 hA c q
      obtain ⟨y, y1, y2⟩ := h4
      have hp : x * l ≤ 9999 * 100 := Nat.mul_le_mul x1 (by omega)
      have hd := hundredth (l := x) (m := l) (by omega)
      rw [if_neg q12, sLet_eq, nI_clamp (by omega), l3, h1 6 (by decide) (by decide), x2, y2, nI_mul, show (100 : Int32) = nI 100 from rfl, pk_div (by omega) (by omega) (by omega), nI_add]
      obtain ⟨M', e1, e2⟩ := mix_61 hA (f_X4_mix_p27 n) (c := c) (l := l) (b := 9999 * c) q (by omega) (by omega) 5 0 (sU M 10 4 (nI (y + x * l / 100))) (by omega) (by omega) (fun r r7 r10 => by rw [sU_row r10]; exact h1 r r7 r10) (fun k hk => by rw [sU_ne hk]; exact h2 k hk) (fun j hj => by omega) (fun j hj _ => by rw [sU_row (by decide)]; exact h3 j hj) (by rw [sU_eq]; exact in_n (by omega))
      rw [nI_0] at e1
      rw [e1]
      exact ih (c + 1) M' (by omega) (by omega) (by rw [show 9999 * (c + 1) = 9999 * c + 9999 by omega]; exact e2)
theorem mix_2 {A : SR} (hA : SAN A) : ∀ (n f : Nat) (M : SR), n + f = 5 → f ≤ 4 → (∀ r : Nat, r ≠ 7 → r ≠ 10 → M r = A r) → (∀ k : Nat, k ≠ 4 → M 10 k = A 10 k) → (∀ j : Nat, j < f → M 7 j = 0) → ∃ M' : SR, f_X4_mix_p2 n (nI f) M = mxT M' ∧ MX A 119988 M' := by
  intro n
  induction n with
  | zero => intro f M hn hf; omega
  | succ n ih =>
    intro f M hn hf h1 h2 h3
    rw [f_X4_mix_p2]
    by_cases q4 : (4 : Int32) ≤ nI f
    · have e : f = 4 := by
        have := (nI_leI (a := 4) (b := f) (by omega) (by omega)).mp q4
        omega
      subst e
      rw [if_pos q4, sLet_eq]
      obtain ⟨M', e1, e2⟩ := mix_27 hA 13 0 (sU M 10 4 0) (by omega) (by omega) ⟨fun r r7 r10 => by rw [sU_row r10]; exact h1 r r7 r10, fun k hk => by rw [sU_ne hk]; exact h2 k hk, fun j hj => by rw [sU_row (by decide), h3 j hj]; exact in_0, by rw [sU_eq]; exact in_0⟩
      rw [nI_0] at e1
      exact ⟨M', e1, e2⟩
    · have q : f < 4 := lp_ge (x := nI f) rfl (show (4 : Int32) = nI 4 from rfl) (by omega) (by omega) q4
      rw [if_neg q4, sLet_eq, nI_1, nI_clamp (by omega)]
      refine ih (f + 1) _ (by omega) (by omega) (fun r r7 r10 => by rw [sU_row r7]; exact h1 r r7 r10) (fun k hk => by rw [sU_row (by decide)]; exact h2 k hk) (fun j hj => ?_)
      by_cases e : j = f
      · subst e; rw [sU_eq]
      · rw [sU_ne e]; exact h3 j (by omega)
theorem mix_sane {A : SR} (hA : SAN A) : SAN (f_X4_mix A) ∧ (∀ r : Nat, r ≠ 7 → r ≠ 10 → (f_X4_mix A) r = A r) ∧ (∀ k : Nat, k < 4 ∨ 6 < k → (f_X4_mix A) 10 k = A 10 k) ∧ ∃ s p q : Nat, (f_X4_mix A) 10 4 = nI s ∧ A 10 5 = nI p ∧ (f_X4_mix A) 10 5 = nI q ∧ s ≤ q ∧ p ≤ q ∧ q ≤ 119988 := by
  obtain ⟨M, e1, h1, h2, h3, y, y1, y2⟩ := mix_2 hA 5 0 A (by omega) (by omega) (fun _ _ _ => rfl) (fun _ _ => rfl) (fun j hj => by omega)
  rw [nI_0] at e1
  rw [f_X4_mix, e1, mxT]
  obtain ⟨c1, c2, c3⟩ := clip_loop 5 0 M (by omega) (by omega) h3 (fun j hj => by omega)
  rw [nI_0] at c1 c2 c3
  rw [f_X4_clip]
  generalize f_X4_clip_p2 5 0 M = C at c1 c2 c3 ⊢
  obtain ⟨a0, a1, a2, a3, a4, a5, a6, a7, a8, a9, a10⟩ := hA
  obtain ⟨p, p1, p2⟩ := a10.2.1
  have hr : ∀ r : Nat, r ≠ 7 → r ≠ 10 → C r = A r := fun r r7 r10 => (c2 r r7 r10).trans (h1 r r7 r10)
  have e4 : C 10 4 = nI y := by rw [c3 4 (by decide)]; exact y2
  have e5 : C 10 5 = nI p := by rw [c3 5 (by decide), h2 5 (by decide)]; exact p2
  rw [e4, e5]
  have hm : (if nI p < nI y then nI y else nI p) = nI (if p < y then y else p) := by
    by_cases z : p < y
    · rw [if_pos z, if_pos (nI_lt z (by omega))]
    · rw [if_neg z, if_neg (nI_nlt (by omega) (by omega))]
  rw [hm]
  have hmm : y ≤ (if p < y then y else p) ∧ p ≤ (if p < y then y else p) ∧ (if p < y then y else p) ≤ 119988 := by
    by_cases z : p < y
    · rw [if_pos z]; omega
    · rw [if_neg z]; omega
  generalize (if p < y then y else p) = m at hmm ⊢
  refine ⟨⟨?_, ?_, ?_, ?_, ?_, ?_, ?_, ?_, ?_, ?_, ?_, ?_, ?_⟩, fun r r7 r10 => by rw [sU_row r10]; exact hr r r7 r10, fun k hk => ?_, y, p, m, ?_, p2, sU_eq, hmm.1, hmm.2.1, hmm.2.2⟩
  · rw [sU_row (by decide), hr 0 (by decide) (by decide)]; exact a0
  · rw [sU_row (by decide), hr 1 (by decide) (by decide)]; exact a1
  · rw [sU_row (by decide), hr 2 (by decide) (by decide)]; exact a2
  · rw [sU_row (by decide), hr 3 (by decide) (by decide)]; exact a3
  · rw [sU_row (by decide), hr 4 (by decide) (by decide)]; exact a4
  · rw [sU_row (by decide), hr 5 (by decide) (by decide)]; exact a5
  · rw [sU_row (by decide), hr 6 (by decide) (by decide)]; exact a6
  · rw [sU_row (by decide)]; exact c1
  · rw [sU_row (by decide), hr 8 (by decide) (by decide)]; exact a8
  · rw [sU_row (by decide), hr 9 (by decide) (by decide)]; exact a9
  · rw [sU_ne (by decide), e4]; exact in_n y1
  · rw [sU_eq]; exact in_n hmm.2.2
  · rw [sU_ne (by decide), c3 7 (by decide), h2 7 (by decide)]; exact a10.2.2
  · rw [sU_ne (by omega), c3 k (by omega)]; exact h2 k (by omega)
  · rw [sU_ne (by decide)]; exact e4
