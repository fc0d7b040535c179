/-! the two readers side by side -/
def TOK (T : Nat → Int32) (N : Nat) : Prop := ∀ j : Nat, j < N → ∃ c : Nat, 0 < c ∧ c < 256 ∧ T j = nI c
def PR (B : SR) (T : Nat → Int32) (N : Nat) (s : Nat → Int32) (k : Nat) (P R : SR) : Prop := k ≤ N ∧ N ≤ 140 ∧ P 1 0 = nI N ∧ P 1 1 = nI k ∧ (∀ j : Nat, j < N → P 0 j = T j) ∧ R 6 2 = nI N ∧ R 6 3 = nI k ∧ (∀ j : Nat, j < N → R 3 j = T j) ∧ FX B R ∧ R 0 = s
theorem pr_set {B : SR} {T : Nat → Int32} {N : Nat} {s : Nat → Int32} {k q : Nat} {P R : SR} (h : PR B T N s k P R) (hq : q ≤ N) : PR B T N s q (sU P 1 1 (nI q)) (sU R 6 3 (nI q)) := by
  obtain ⟨h1, h2, h3, h4, h5, h6, h7, h8, ⟨f1, f2, f3, f4, f5⟩, h10⟩ := h
  refine ⟨hq, h2, by rw [sU_ne (by decide)]; exact h3, sU_eq, by rw [sU_row (show 0 ≠ 1 by decide)]; exact h5, by rw [sU_ne (by decide)]; exact h6, sU_eq, by rw [sU_row (show 3 ≠ 6 by decide)]; exact h8, ⟨?_, ?_, ?_, ?_, ?_⟩, by rw [sU_row (by decide)]; exact h10⟩
  · rw [sU_row (by decide)]; exact f1
  · rw [sU_row (by decide)]; exact f2
  · rw [sU_row (by decide)]; exact f3
  · rw [sU_ne (by decide)]; exact f4
  · rw [sU_ne (by decide)]; exact f5
theorem pr_r {B : SR} {T : Nat → Int32} {N : Nat} {s : Nat → Int32} {k : Nat} {P R : SR} (h : PR B T N s k P R) : PR B T N s k P (sU R 6 3 (nI k)) := by
  have g := pr_set h h.1
  exact ⟨h.1, h.2.1, h.2.2.1, h.2.2.2.1, h.2.2.2.2.1, g.2.2.2.2.2⟩
theorem pr_num {B : SR} {T : Nat → Int32} {N : Nat} {s : Nat → Int32} {k : Nat} {P R : SR} (h : PR B T N s k P R) {v : Int32} : PR B T N s k P (sU R 6 4 v) := by
  obtain ⟨h1, h2, h3, h4, h5, h6, h7, h8, ⟨f1, f2, f3, f4, f5⟩, h10⟩ := h
  refine ⟨h1, h2, h3, h4, h5, by rw [sU_ne (by decide)]; exact h6, by rw [sU_ne (by decide)]; exact h7, by rw [sU_row (show 3 ≠ 6 by decide)]; exact h8, ⟨?_, ?_, ?_, ?_, ?_⟩, by rw [sU_row (by decide)]; exact h10⟩
  · rw [sU_row (by decide)]; exact f1
  · rw [sU_row (by decide)]; exact f2
  · rw [sU_row (by decide)]; exact f3
  · rw [sU_ne (by decide)]; exact f4
  · rw [sU_ne (by decide)]; exact f5
theorem pr_inc {B : SR} {T : Nat → Int32} {N : Nat} {s : Nat → Int32} {k : Nat} {P R : SR} (h : PR B T N s k P R) (hk : k < N) : PR B T N s (k + 1) (sU P 1 1 (P 1 1 + 1)) (sU R 6 3 (R 6 3 + 1)) := by
  rw [h.2.2.2.1, h.2.2.2.2.2.2.1, nI_1]
  exact pr_set h hk
theorem pr_c1 {B : SR} {T : Nat → Int32} {N : Nat} {s : Nat → Int32} {k : Nat} {P R : SR} (h : PR B T N s k P R) : (P 1 0 ≤ P 1 1 ↔ N ≤ k) ∧ (R 6 2 ≤ R 6 3 ↔ N ≤ k) := by
  have := h.1; have := h.2.1
  rw [h.2.2.1, h.2.2.2.1, h.2.2.2.2.2.1, h.2.2.2.2.2.2.1, nI_leI (by omega) (by omega)]
  exact ⟨Iff.rfl, Iff.rfl⟩
theorem pr_ch {B : SR} {T : Nat → Int32} {N : Nat} {s : Nat → Int32} {k : Nat} {P R : SR} (h : PR B T N s k P R) (hk : k < N) : P 0 (P 1 1).toNatClampNeg = T k ∧ R 3 (R 6 3).toNatClampNeg = T k := by
  have := h.1; have := h.2.1
  rw [h.2.2.2.1, h.2.2.2.2.2.2.1, nI_clamp (by omega)]
  exact ⟨h.2.2.2.2.1 k hk, h.2.2.2.2.2.2.2.1 k hk⟩
theorem sk_rel {B : SR} {T : Nat → Int32} {N : Nat} {s : Nat → Int32} : ∀ (n k : Nat) (P R : SR), PR B T N s k P R → N < k + n → ∃ q : Nat, k ≤ q ∧ PR B T N s q (f_X2_skipSpaces_p0 n P) (f_X6_here_p0 n R).2 ∧ ((q < N ∧ (f_X6_here_p0 n R).1 = T q ∧ ¬ T q = 32) ∨ (q = N ∧ (f_X6_here_p0 n R).1 = -1)) := by
  intro n
  induction n with
  | zero => intro k P R h hn; have := h.1; omega
  | succ n ih =>
    intro k P R h hn
    obtain ⟨c1, c2⟩ := pr_c1 h
    rw [f_X2_skipSpaces_p0, f_X6_here_p0]
    by_cases c : N ≤ k
    · have := h.1
      rw [if_pos (c1.mpr c), if_pos (c2.mpr c), f_X6_here_p38, if_pos (c2.mpr c)]
      exact ⟨k, Nat.le_refl k, h, Or.inr ⟨by omega, rfl⟩⟩
    · obtain ⟨d1, d2⟩ := pr_ch h (by omega)
      rw [if_neg (fun z => c (c1.mp z)), if_neg (fun z => c (c2.mp z)), d1, d2]
      by_cases e : T k = 32
      · rw [if_pos e, if_pos e, sLet_eq, sLet_eq]
        obtain ⟨q, q1, q2, q3⟩ := ih (k + 1) _ _ (pr_inc h (by omega)) (by omega)
        exact ⟨q, by omega, q2, q3⟩
      · rw [if_neg e, if_neg e, f_X6_here_p38, if_neg (fun z => c (c2.mp z)), d2]
        exact ⟨k, Nat.le_refl k, h, Or.inl ⟨by omega, rfl, e⟩⟩
theorem sk_all {B : SR} {T : Nat → Int32} {N : Nat} {s : Nat → Int32} {k : Nat} {P R : SR} (h : PR B T N s k P R) : ∃ q : Nat, k ≤ q ∧ PR B T N s q (f_X2_skipSpaces P) (f_X6_here R).2 ∧ ((q < N ∧ (f_X6_here R).1 = T q ∧ ¬ T q = 32) ∨ (q = N ∧ (f_X6_here R).1 = -1)) := by
  have := h.1; have := h.2.1
  rw [f_X2_skipSpaces, f_X6_here]
  exact sk_rel 142 k P R h (by omega)
theorem tk_rel {B : SR} {T : Nat → Int32} {N : Nat} {s : Nat → Int32} {k : Nat} {P R : SR} (h : PR B T N s k P R) {c : Int32} (hc : ¬ c = -1) : ∃ q : Nat, k ≤ q ∧ PR B T N s q (f_X2_takes P c).2 (f_X6_takes R c).2 ∧ (((f_X2_takes P c).1 = 0 ∧ (f_X6_takes R c).1 = 0 ∧ (q < N → ¬ T q = c ∧ ¬ T q = 32)) ∨ ((f_X2_takes P c).1 = 1 ∧ (f_X6_takes R c).1 = 1 ∧ k < q)) := by
  obtain ⟨q, q1, q2, q3⟩ := sk_all h
  dsimp only [f_X2_takes, f_X6_takes, sLet]
  generalize f_X2_skipSpaces P = P1 at q2 ⊢
  generalize (f_X6_here R).2 = R1 at q2 ⊢
  generalize (f_X6_here R).1 = r at q3 ⊢
  obtain ⟨c1, c2⟩ := pr_c1 q2
  have hr : sU R1 6 3 (R1 6 3 + 0) = sU R1 6 3 (nI q) := by rw [Int32.add_zero, q2.2.2.2.2.2.2.1]
  rcases q3 with ⟨a1, a2, a3⟩ | ⟨a1, a2⟩
  · obtain ⟨d1, d2⟩ := pr_ch q2 a1
    rw [if_neg (fun z => absurd (c1.mp z) (by omega)), d1, a2]
    by_cases e : T q = c
    · rw [if_pos e, if_pos e]
      exact ⟨q + 1, by omega, pr_inc q2 a1, Or.inr ⟨rfl, rfl, by omega⟩⟩
    · rw [if_neg e, if_neg e, hr]
      exact ⟨q, q1, pr_r q2, Or.inl ⟨rfl, rfl, fun _ => ⟨e, a3⟩⟩⟩
  · rw [if_pos (c1.mpr (by omega)), a2, if_neg (show ¬ (-1 : Int32) = c from fun z => hc z.symm), hr]
    exact ⟨q, q1, pr_r q2, Or.inl ⟨rfl, rfl, fun z => absurd z (by omega)⟩⟩
/-! numbers -/
theorem nI_sub {a b : Nat} (h : b ≤ a) : nI a - nI b = nI (a - b) := by
  have e : nI a = nI (a - b) + nI b := by rw [nI_add, show a - b + b = a by omega]
  rw [e, Int32.add_sub_cancel]
theorem nI_mul (a b : Nat) : nI a * nI b = nI (a * b) := (Int32.ofNat_mul a b).symm
def rEnd (a b x3 x4 x5 : Int32) (R : SR) : Int32 × SR := if R 6 3 ≤ x4 then (0, sU (sU R 6 3 x4) 6 4 x5) else if x3 = 48 then (if R 6 3 = x4 + 1 then (if f_X6_in x5 a b = 0 then (0, sU (sU R 6 3 x4) 6 4 x5) else (1, sU (sU R 6 3 (R 6 3)) 6 4 x5)) else (0, sU (sU R 6 3 x4) 6 4 x5)) else (if f_X6_in x5 a b = 0 then (0, sU (sU R 6 3 x4) 6 4 x5) else (1, sU (sU R 6 3 (R 6 3)) 6 4 x5))
theorem reads_st (a b x3 x4 x5 : Int32) (R : SR) (n : Nat) : f_X6_reads_p14 a b (n + 1) x3 x4 x5 R = if R 6 2 ≤ R 6 3 then rEnd a b x3 x4 x5 R else if f_X6_in (R 3 (R 6 3).toNatClampNeg) 48 57 = 0 then rEnd a b x3 x4 x5 R else f_X6_reads_p14 a b n x3 x4 (if 100000 ≤ x5 then x5 else 10 * x5 + R 3 (R 6 3).toNatClampNeg - 48) (sU R 6 3 (R 6 3 + 1)) := by
  rw [f_X6_reads_p14]
  dsimp only [sLet, rEnd]
  by_cases c1 : R 6 2 ≤ R 6 3
  · rw [if_pos c1, if_pos c1]
  · rw [if_neg c1, if_neg c1]
    by_cases c2 : f_X6_in (R 3 (R 6 3).toNatClampNeg) 48 57 = 0
    · rw [if_pos c2, if_pos c2]
    · rw [if_neg c2, if_neg c2]
      by_cases c3 : 100000 ≤ x5
      · rw [if_pos c3, if_pos c3]
      · rw [if_neg c3, if_neg c3]
def NV (a b : Nat) : Prop := (b ≤ 9999 ∧ a = b) ∨ (9999 < b ∧ a = 9999)
theorem in0_iff {v m : Nat} (hv : v < 2 ^ 31) (hm : m < 2 ^ 31) : f_X6_in (nI v) 0 (nI m) = 0 ↔ m < v := by
  rw [f_X6_in, if_neg (nI_pos hv)]
  by_cases c : nI m < nI v
  · rw [if_pos c]
    exact ⟨fun _ => (nI_ltI hm hv).mp c, fun _ => rfl⟩
  · rw [if_neg c]
    exact ⟨fun z => absurd z (by decide), fun z => absurd ((nI_ltI hm hv).mpr z) c⟩
def NR (B : SR) (T : Nat → Int32) (N : Nat) (s : Nat → Int32) (f m : Nat) (c r : Int32 × SR) : Prop := ∃ q : Nat, f ≤ q ∧ PR B T N s q c.2 r.2 ∧ ((c.1 = -1 ∧ r.1 = 0) ∨ ∃ v : Nat, v ≤ m ∧ c.1 = nI v ∧ r.1 = 1 ∧ r.2 6 4 = nI v)
theorem num_111 {B : SR} {T : Nat → Int32} {N : Nat} {s : Nat → Int32} {f k m vc vr : Nat} {P R : SR} (h : PR B T N s k P R) (hm : m ≤ 1000) (hf : f ≤ k) (hv : NV vc vr) (hr : vr < 1000010) : NR B T N s f m (f_X2_readNumber_p111 (nI m) (nI f) (nI vc) P) (if f_X6_in (nI vr) 0 (nI m) = 0 then (0, sU (sU R 6 3 (nI f)) 6 4 (nI vr)) else (1, sU (sU R 6 3 (R 6 3)) 6 4 (nI vr))) := by
  have := h.1
  rw [f_X2_readNumber_p111, f_X2_readNumber_p112]
  dsimp only [sLet]
  by_cases c : m < vr
  · rw [if_pos ((in0_iff (by omega) (by omega)).mpr c), if_pos (show nI m < nI vc from (nI_ltI (by omega) (by unfold NV at hv; omega)).mpr (by unfold NV at hv; omega))]
    exact ⟨f, Nat.le_refl f, pr_num (pr_set h (by omega)), Or.inl ⟨rfl, rfl⟩⟩
  · have e : vc = vr := by unfold NV at hv; omega
    subst e
    rw [if_neg (fun z => c ((in0_iff (by omega) (by omega)).mp z)), if_neg (show ¬ nI m < nI vc from fun z => c ((nI_ltI (by omega) (by omega)).mp z)), if_pos rfl, h.2.2.2.2.2.2.1]
    exact ⟨k, hf, pr_num (pr_r h), Or.inr ⟨vc, by omega, rfl, rfl, by dsimp only; exact sU_eq⟩⟩
theorem num_end {B : SR} {T : Nat → Int32} {N : Nat} {s : Nat → Int32} {f k m vc vr : Nat} {P R : SR} {x3 : Int32} (h : PR B T N s k P R) (hm : m ≤ 1000) (hf : f ≤ k) (hv : NV vc vr) (hr : vr < 1000010) (hx : f < N → x3 = T f) : NR B T N s f m (f_X2_readNumber_p76 (nI m) (nI f) (nI vc) P) (rEnd 0 (nI m) x3 (nI f) (nI vr) R) := by
  have hkN := h.1; have hN := h.2.1
  have e11 := h.2.2.2.1
  have e63 := h.2.2.2.2.2.2.1
  have n111 := num_111 h hm hf hv hr
  have fail : ∀ z : Int32, NR B T N s f m (z * 0 + -1, sU P 1 1 (nI f)) (0, sU (sU R 6 3 (nI f)) 6 4 (nI vr)) := fun z => ⟨f, Nat.le_refl f, pr_num (pr_set h (by omega)), Or.inl ⟨by rw [Int32.mul_zero, Int32.zero_add], rfl⟩⟩
  have fail : NR B T N s f m (-1, sU P 1 1 (nI f)) (0, sU (sU R 6 3 (nI f)) 6 4 (nI vr)) := by
    have := fail 0
    rw [Int32.mul_zero, Int32.zero_add] at this
    exact this
  rw [f_X2_readNumber_p76, rEnd, e11]
  by_cases c : k = f
  · subst c
    rw [if_pos rfl, e63, if_pos (nI_le (Nat.le_refl k) (by omega))]
    exact ⟨k, Nat.le_refl k, pr_num (pr_r h), Or.inl ⟨rfl, rfl⟩⟩
  · rw [if_neg (show ¬ nI k = nI f from fun z => c ((nI_eq (by omega) (by omega)).mp z)), e63, if_neg (show ¬ nI k ≤ nI f from fun z => absurd ((nI_leI (by omega) (by omega)).mp z) (by omega)), nI_sub hf, hx (by omega), h.2.2.2.2.1 (nI f).toNatClampNeg (by rw [nI_clamp (by omega)]; omega), nI_clamp (by omega), nI_1]
    rw [e63] at n111
    by_cases c2 : T f = 48
    · rw [if_pos c2, if_pos c2]
      by_cases c3 : k = f + 1
      · subst c3
        rw [if_pos (show nI (f + 1 - f) ≤ 1 by rw [show f + 1 - f = 1 by omega]; decide), if_pos rfl]
        exact n111
      · rw [if_neg (show ¬ nI (k - f) ≤ 1 from fun z => absurd ((nI_leI (a := k - f) (b := 1) (by omega) (by omega)).mp z) (by omega)), if_neg (show ¬ nI k = nI (f + 1) from fun z => c3 ((nI_eq (by omega) (by omega)).mp z)), f_X2_readNumber_p112]
        dsimp only [sLet]
        by_cases c4 : nI m < nI vc
        · rw [if_pos c4]; exact fail
        · rw [if_neg c4, if_neg (show ¬ (1 : Int32) = 0 by decide)]; exact fail
    · rw [if_neg c2, if_neg c2]
      by_cases c3 : nI (k - f) ≤ 1
      · rw [if_pos c3]; exact n111
      · rw [if_neg c3]; exact n111
theorem dig_eq : ∀ c : Nat, c < 256 → f_X5_isBelow (nI c - 48) 10 = f_X6_in (nI c) 48 57 ∧ (¬ f_X6_in (nI c) 48 57 = 0 → 48 ≤ c ∧ c < 58) := by decide +kernel
theorem num_loop {B : SR} {T : Nat → Int32} {N : Nat} {s : Nat → Int32} (hT : TOK T N) {f m : Nat} (hm : m ≤ 1000) {x3 : Int32} (hx : f < N → x3 = T f) : ∀ (n k vc vr : Nat) (P R : SR), PR B T N s k P R → f ≤ k → NV vc vr → vr < 1000010 → N < k + n → NR B T N s f m (f_X2_readNumber_p11 (nI m) n (nI f) (nI vc) P) (f_X6_reads_p14 0 (nI m) n x3 (nI f) (nI vr) R) := by
  intro n
  induction n with
  | zero => intro k vc vr P R h; have := h.1; omega
  | succ n ih =>
    intro k vc vr P R h hf hv hr hn
    obtain ⟨c1, c2⟩ := pr_c1 h
    have ne := num_end h hm hf hv hr hx
    rw [f_X2_readNumber_p11, reads_st]
    by_cases c : N ≤ k
    · rw [if_pos (c1.mpr c), if_pos (c2.mpr c)]; exact ne
    · obtain ⟨d1, d2⟩ := pr_ch h (by omega)
      obtain ⟨ch, ch1, ch2, ch3⟩ := hT k (by omega)
      obtain ⟨g1, g2⟩ := dig_eq ch ch2
      rw [if_neg (fun z => c (c1.mp z)), if_neg (fun z => c (c2.mp z)), d1, d2, ch3, g1]
      by_cases e : f_X6_in (nI ch) 48 57 = 0
      · rw [if_pos e, if_pos e]; exact ne
      · obtain ⟨g3, g4⟩ := g2 e
        rw [if_neg e, if_neg e, sLet_eq, show (48 : Int32) = nI 48 from rfl, nI_sub g3, show (10 : Int32) = nI 10 from rfl, nI_mul, nI_mul, nI_add, nI_add, nI_sub (by omega)]
        have e9 : (if 9999 < nI (10 * vc + (ch - 48)) then (9999 : Int32) else nI (10 * vc + (ch - 48))) = nI (if 9999 < 10 * vc + (ch - 48) then 9999 else 10 * vc + (ch - 48)) := by
          by_cases z : 9999 < 10 * vc + (ch - 48)
          · rw [if_pos z, if_pos (show (9999 : Int32) < _ from (nI_ltI (a := 9999) (by omega) (by unfold NV at hv; omega)).mpr z)]; rfl
          · rw [if_neg z, if_neg (show ¬ (9999 : Int32) < _ from fun y => z ((nI_ltI (a := 9999) (by omega) (by unfold NV at hv; omega)).mp y))]
        have e10 : (if (100000 : Int32) ≤ nI vr then nI vr else nI (10 * vr + ch - 48)) = nI (if 100000 ≤ vr then vr else 10 * vr + ch - 48) := by
          by_cases z : 100000 ≤ vr
          · rw [if_pos z, if_pos (show (100000 : Int32) ≤ _ from (nI_leI (a := 100000) (by omega) (by omega)).mpr z)]
          · rw [if_neg z, if_neg (show ¬ (100000 : Int32) ≤ _ from fun y => z ((nI_leI (a := 100000) (by omega) (by omega)).mp y))]
        rw [e9, e10]
        refine ih (k + 1) _ _ _ _ (pr_inc h (by omega)) (by omega) ?_ ?_ (by omega)
        · unfold NV at hv ⊢
          by_cases z : 100000 ≤ vr
          · rw [if_pos z]
            by_cases y : 9999 < 10 * vc + (ch - 48)
            · rw [if_pos y]; omega
            · rw [if_neg y]; omega
          · rw [if_neg z]
            by_cases y : 9999 < 10 * vc + (ch - 48)
            · rw [if_pos y]; omega
            · rw [if_neg y]; omega
        · by_cases z : 100000 ≤ vr
          · rw [if_pos z]; omega
          · rw [if_neg z]; omega
theorem num_rel {B : SR} {T : Nat → Int32} {N : Nat} {s : Nat → Int32} (hT : TOK T N) {k m : Nat} (hm : m ≤ 1000) {P R : SR} (h : PR B T N s k P R) : NR B T N s k m (f_X2_readNumber P (nI m)) (f_X6_reads R 0 (nI m)) := by
  obtain ⟨q, q1, q2, q3⟩ := sk_all h
  rw [f_X2_readNumber, sLet_eq, f_X6_reads, sLet_eq]
  generalize f_X2_skipSpaces P = P1 at q2 ⊢
  generalize (f_X6_here R).2 = R1 at q2 ⊢
  generalize (f_X6_here R).1 = r at q3 ⊢
  have := q2.1; have := q2.2.1
  rw [q2.2.2.2.1, q2.2.2.2.2.2.2.1]
  have g := num_loop hT hm (f := q) (x3 := r) (fun z => by rcases q3 with ⟨a1, a2, a3⟩ | ⟨a1, a2⟩
                                                           · exact a2
                                                           · omega) 142 q 0 0 P1 R1 q2 (Nat.le_refl q) (Or.inl ⟨by omega, rfl⟩) (by omega) (by omega)
  rw [nI_0] at g
  obtain ⟨q', a1, a2, a3⟩ := g
  exact ⟨q', by omega, a2, a3⟩
/-! GROUPS -/
theorem grp_eq : ∀ c : Nat, c < 256 → (f_X5_isBelow (nI c - 48) 4 = 0 ↔ ¬ (48 ≤ c ∧ c < 52)) ∧ (f_X6_in (nI c) 48 57 = 0 ↔ ¬ (48 ≤ c ∧ c < 58)) ∧ (f_X6_in (nI c) 48 51 = 0 ↔ ¬ (48 ≤ c ∧ c < 52)) ∧ (48 ≤ c → nI c - 48 = nI (c - 48)) ∧ ((48 ≤ c ∧ c < 58) → (3 < nI c - 48 ↔ 52 ≤ c)) := by decide +kernel
theorem grp_or : ∀ g : Nat, g < 16 → ∀ d : Nat, d < 4 → nI g ||| (1 <<< (nI d &&& 31)) = nI (g ||| 2 ^ d) ∧ g ||| 2 ^ d < 16 ∧ 0 < g ||| 2 ^ d := by decide +kernel
def GRR (B : SR) (T : Nat → Int32) (N : Nat) (s : Nat → Int32) (k : Nat) (c r : Int32 × SR) : Prop := ∃ q : Nat, k ≤ q ∧ PR B T N s q c.2 r.2 ∧ ((c.1 = -1 ∧ r.1 = 0) ∨ (∃ g : Nat, 0 < g ∧ g < 16 ∧ c.1 = nI g ∧ r.1 = 1 ∧ r.2 6 4 = nI g) ∨ (∃ g : Nat, 0 < g ∧ g < 16 ∧ c.1 = nI g ∧ r.1 = 0 ∧ q < N ∧ ∃ ch : Nat, 48 ≤ ch ∧ ch < 58 ∧ T q = nI ch))
theorem g68 {g : Nat} (hg : g < 16) (P : SR) : f_X2_readGroups_p68 (nI g) P = if g = 0 then (-1, P) else (nI g, P) := by
  rw [f_X2_readGroups_p68]
  by_cases c : g = 0
  · subst c; rw [if_pos rfl, if_pos (show nI 0 = 0 from rfl)]
  · rw [if_neg c, if_neg (nI_ne0 (by omega) (by omega))]
theorem grp_loop {B : SR} {T : Nat → Int32} {N : Nat} {s : Nat → Int32} (hT : TOK T N) : ∀ (n k g : Nat) (P R : SR), PR B T N s k P R → N < k + n → g < 16 → (g = 0 → ∃ ch : Nat, k < N ∧ T k = nI ch ∧ 48 ≤ ch ∧ ch < 52) → GRR B T N s k (f_X2_readGroups_p6 n (nI g) P) (f_X6_readsGroups_p18 n (nI g) R) := by
  intro n
  induction n with
  | zero => intro k g P R h; have := h.1; omega
  | succ n ih =>
    intro k g P R h hn hg h0
    obtain ⟨c1, c2⟩ := pr_c1 h
    rw [f_X2_readGroups_p6, f_X6_readsGroups_p18, g68 hg]
    by_cases c : N ≤ k
    · have : ¬ g = 0 := fun z => by obtain ⟨ch, a, -⟩ := h0 z; omega
      rw [if_pos (c1.mpr c), if_pos (c2.mpr c), if_neg this, sLet_eq]
      exact ⟨k, Nat.le_refl k, pr_num h, Or.inr (Or.inl ⟨g, by omega, hg, rfl, rfl, by dsimp only; exact sU_eq⟩)⟩
    · obtain ⟨d1, d2⟩ := pr_ch h (by omega)
      obtain ⟨ch, ch1, ch2, ch3⟩ := hT k (by omega)
      obtain ⟨x1, x2, x3, x4, x5⟩ := grp_eq ch ch2
      rw [if_neg (fun z => c (c1.mp z)), if_neg (fun z => c (c2.mp z)), d1, d2, ch3]
      by_cases e : 48 ≤ ch ∧ ch < 52
      · rw [if_neg (fun z => (x1.mp z) e), if_neg (show ¬ f_X6_in (nI ch) 48 57 = 0 from fun z => (x2.mp z) ⟨e.1, by omega⟩), if_neg (show ¬ 3 < nI ch - 48 from fun z => absurd ((x5 ⟨e.1, by omega⟩).mp z) (by omega)), x4 e.1]
        show GRR B T N s k (if f_X5_hasBit (nI g) (nI (ch - 48)) = 0 then _ else _) (if f_X5_hasBit (nI g) (nI (ch - 48)) = 0 then _ else _)
        by_cases hb : f_X5_hasBit (nI g) (nI (ch - 48)) = 0
        · obtain ⟨y1, y2, y3⟩ := grp_or g hg (ch - 48) (by omega)
          rw [if_pos hb, if_pos hb, sLet_eq, sLet_eq, y1]
          obtain ⟨q, q1, q2, q3⟩ := ih (k + 1) (g ||| 2 ^ (ch - 48)) _ _ (pr_inc h (by omega)) (by omega) y2 (fun z => by omega)
          exact ⟨q, by omega, q2, q3⟩
        · have : ¬ g = 0 := fun z => by
            subst z
            exact hb ((by decide +kernel : ∀ d : Nat, d < 4 → f_X5_hasBit (nI 0) (nI d) = 0) (ch - 48) (by omega))
          rw [if_neg hb, if_neg hb, if_neg this]
          exact ⟨k, Nat.le_refl k, h, Or.inr (Or.inr ⟨g, by omega, hg, rfl, rfl, by omega, ch, e.1, by omega, ch3⟩)⟩
      · have hg0 : ¬ g = 0 := fun z => by
          obtain ⟨c', a1, a2, a3, a4⟩ := h0 z
          have := (nI_eq (by omega) (by omega)).mp (ch3.symm.trans a2)
          omega
        rw [if_pos (x1.mpr e), if_neg hg0]
        by_cases e2 : 48 ≤ ch ∧ ch < 58
        · rw [if_neg (fun z => (x2.mp z) e2), if_pos ((x5 e2).mpr (by omega))]
          exact ⟨k, Nat.le_refl k, h, Or.inr (Or.inr ⟨g, by omega, hg, rfl, rfl, by omega, ch, e2.1, e2.2, ch3⟩)⟩
        · rw [if_pos (x2.mpr e2), sLet_eq]
          exact ⟨k, Nat.le_refl k, pr_num h, Or.inr (Or.inl ⟨g, by omega, hg, rfl, rfl, by dsimp only; exact sU_eq⟩)⟩
theorem grp_rel {B : SR} {T : Nat → Int32} {N : Nat} {s : Nat → Int32} (hT : TOK T N) {k : Nat} {P R : SR} (h : PR B T N s k P R) : GRR B T N s k (f_X2_readGroups P) (f_X6_readsGroups R) := by
  obtain ⟨q, q1, q2, q3⟩ := sk_all h
  rw [f_X2_readGroups, sLet_eq, f_X6_readsGroups, sLet_eq]
  generalize f_X2_skipSpaces P = P1 at q2 ⊢
  generalize (f_X6_here R).2 = R1 at q2 ⊢
  generalize (f_X6_here R).1 = r at q3 ⊢
  have := q2.1; have := q2.2.1
  obtain ⟨c1, c2⟩ := pr_c1 q2
  have cls : ∀ (c : N ≤ q ∨ ∃ ch : Nat, ch < 256 ∧ T q = nI ch ∧ ¬ (48 ≤ ch ∧ ch < 52)), f_X2_readGroups_p6 142 0 P1 = (-1, P1) := fun c => by
    rw [show (142 : Nat) = 141 + 1 from rfl, f_X2_readGroups_p6, f_X2_readGroups_p68, if_pos rfl]
    by_cases z : N ≤ q
    · rw [if_pos (c1.mpr z)]
    · rcases c with c | ⟨ch, a1, a2, a3⟩
      · exact absurd c z
      · rw [if_neg (fun y => z (c1.mp y)), (pr_ch q2 (by omega)).1, a2, if_pos ((grp_eq ch a1).1.mpr a3)]
  rcases q3 with ⟨a1, a2, a3⟩ | ⟨a1, a2⟩
  · obtain ⟨ch, ch1, ch2, ch3⟩ := hT q a1
    obtain ⟨x1, x2, x3, x4, x5⟩ := grp_eq ch ch2
    rw [a2, ch3]
    by_cases e : 48 ≤ ch ∧ ch < 52
    · rw [if_neg (fun z => (x3.mp z) e)]
      have g := grp_loop hT 142 q 0 P1 R1 q2 (by omega) (by omega) (fun _ => ⟨ch, a1, ch3, e.1, e.2⟩)
      rw [nI_0] at g
      obtain ⟨q', b1, b2, b3⟩ := g
      exact ⟨q', by omega, b2, b3⟩
    · rw [if_pos (x3.mpr e), cls (Or.inr ⟨ch, ch2, ch3, e⟩)]
      exact ⟨q, q1, q2, Or.inl ⟨rfl, rfl⟩⟩
  · rw [a2, if_pos (by decide +kernel), cls (Or.inl (by omega))]
    exact ⟨q, q1, q2, Or.inl ⟨rfl, rfl⟩⟩
