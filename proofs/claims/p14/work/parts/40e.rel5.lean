/-! letters, values, items -/
theorem ix_part : ∀ c : Nat, c < 256 → f_J0_indexOf_0f7a4 (nI c) = (if f_X6_partOf (nI c) = -99 then -1 else f_X6_partOf (nI c)) ∧ (¬ f_X6_partOf (nI c) = -99 → ∃ p : Nat, p < 5 ∧ f_X6_partOf (nI c) = nI p) ∧ (48 ≤ c ∧ c < 60 → f_X6_partOf (nI c) = -99) := by
  intro c hc
  have h := (by decide +kernel : ∀ c : Nat, c < 256 → f_J0_indexOf_0f7a4 (nI c) = (if f_X6_partOf (nI c) = -99 then -1 else f_X6_partOf (nI c)) ∧ (f_X6_partOf (nI c) = -99 ∨ f_X6_partOf (nI c) = nI 0 ∨ f_X6_partOf (nI c) = nI 1 ∨ f_X6_partOf (nI c) = nI 2 ∨ f_X6_partOf (nI c) = nI 3 ∨ f_X6_partOf (nI c) = nI 4) ∧ (48 ≤ c ∧ c < 60 → f_X6_partOf (nI c) = -99)) c hc
  refine ⟨h.1, fun z => ?_, h.2.2⟩
  rcases h.2.1 with e | e | e | e | e | e
  · exact absurd e z
  · exact ⟨0, by omega, e⟩
  · exact ⟨1, by omega, e⟩
  · exact ⟨2, by omega, e⟩
  · exact ⟨3, by omega, e⟩
  · exact ⟨4, by omega, e⟩
theorem has_same (a b : Int32) : f_X5_hasBit a b = f_X6_has a b := rfl
/-- the letter: refused by both, or read by the class and seen by the reference -/
def LR (B : SR) (T : Nat → Int32) (N : Nat) (s : Nat → Int32) (k t : Nat) (c : Int32 × SR) (h : Int32 × SR) : Prop := ∃ q : Nat, k ≤ q ∧ ((c.1 = -1 ∧ PR B T N s q c.2 h.2 ∧ (f_X6_partOf h.1 = -99 ∨ ¬ f_X6_has (nI t) (f_X6_partOf h.1) = 0)) ∨ (∃ p : Nat, p < 5 ∧ c.1 = nI p ∧ f_X6_partOf h.1 = nI p ∧ f_X6_has (nI t) (nI p) = 0 ∧ PR B T N s (q + 1) c.2 (sU h.2 6 3 (h.2 6 3 + 1))))
theorem let_rel {B : SR} {T : Nat → Int32} {N : Nat} {s : Nat → Int32} (hT : TOK T N) {k t : Nat} {P R : SR} (h : PR B T N s k P R) : LR B T N s k t (f_X2_readLetter P (nI t)) (f_X6_here R) := by
  obtain ⟨q, q1, q2, q3⟩ := sk_all h
  unfold LR
  dsimp only [f_X2_readLetter, sLet]
  generalize f_X2_skipSpaces P = P1 at q2 ⊢
  generalize (f_X6_here R).2 = R1 at q2 ⊢
  generalize (f_X6_here R).1 = r at q3 ⊢
  obtain ⟨c1, c2⟩ := pr_c1 q2
  refine ⟨q, q1, ?_⟩
  rcases q3 with ⟨a1, a2, a3⟩ | ⟨a1, a2⟩
  · obtain ⟨ch, ch1, ch2, ch3⟩ := hT q a1
    obtain ⟨x1, x2, x3⟩ := ix_part ch ch2
    rw [if_neg (fun z => absurd (c1.mp z) (by omega)), (pr_ch q2 a1).1, a2, ch3, x1]
    by_cases e : f_X6_partOf (nI ch) = -99
    · rw [if_pos e, if_pos (show (-1 : Int32) < 0 by decide)]
      exact Or.inl ⟨rfl, q2, Or.inl e⟩
    · obtain ⟨p, p1, p2⟩ := x2 e
      rw [if_neg e, p2, if_neg (nI_pos (by omega)), has_same]
      by_cases b : f_X6_has (nI t) (nI p) = 0
      · rw [if_pos b]
        exact Or.inr ⟨p, p1, rfl, rfl, b, pr_inc q2 a1⟩
      · rw [if_neg b]
        exact Or.inl ⟨rfl, q2, Or.inr b⟩
  · rw [if_pos (c1.mpr (by omega)), a2]
    exact Or.inl ⟨rfl, q2, Or.inl (by decide +kernel)⟩
/-- the value of a part -/
def VR (B : SR) (T : Nat → Int32) (N : Nat) (s : Nat → Int32) (k a p : Nat) (c r : Int32 × SR) : Prop := ∃ q : Nat, k ≤ q ∧ ((c.1 = -1 ∧ r.1 = 0 ∧ PR B T N s q c.2 r.2) ∨ (∃ (v : Int32) (R1 : SR), ¬ c.1 = -1 ∧ c.1 = v ∧ r.1 = 1 ∧ PR B T N s q c.2 R1 ∧ r.2 = f_X6_setByHand R1 (nI a) (nI p) v) ∨ (¬ c.1 = -1 ∧ r.1 = 0 ∧ PR B T N s q c.2 r.2 ∧ q < N ∧ ∃ ch : Nat, 48 ≤ ch ∧ ch < 58 ∧ T q = nI ch))
theorem ni_m1 {v : Nat} (h : v < 2 ^ 31) : ¬ nI v = -1 := fun z => nI_pos h (by rw [z]; decide)
theorem val_rel {B : SR} {T : Nat → Int32} {N : Nat} {s : Nat → Int32} (hT : TOK T N) {k a p : Nat} (hp : p < 5) {P R : SR} (h : PR B T N s k P (sU R 6 3 (R 6 3 + 1))) : VR B T N s k a p (f_X2_readValue P (nI p)) (f_X6_readsPart R (nI a) (nI p)) := by
  have h1 := pr_num h (v := 1)
  have hnum : sU (sU R 6 3 (R 6 3 + 1)) 6 4 1 6 4 = 1 := sU_eq
  unfold VR
  dsimp only [f_X2_readValue, f_X6_readsPart, sLet]
  generalize sU (sU R 6 3 (R 6 3 + 1)) 6 4 1 = R0' at h1 hnum ⊢
  rcases (show p = 0 ∨ p = 1 ∨ p = 2 ∨ p = 3 ∨ p = 4 by omega) with rfl | rfl | rfl | rfl | rfl
  · rw [if_pos (show nI 0 = 0 from rfl), if_pos (show nI 0 = 0 from rfl), show chI 0 = nI 1000 from rfl, show (1000 : Int32) = nI 1000 from rfl]
    obtain ⟨q, q1, q2, q3⟩ := num_rel hT (m := 1000) (by omega) h1
    generalize f_X2_readNumber P (nI 1000) = c at q2 q3 ⊢
    generalize f_X6_reads R0' 0 (nI 1000) = r at q2 q3 ⊢
    refine ⟨q, q1, ?_⟩
    rcases q3 with ⟨a1, a2⟩ | ⟨v, a1, a2, a3, a4⟩
    · rw [if_pos a2]; exact Or.inl ⟨a1, a2, q2⟩
    · rw [if_neg (by rw [a3]; decide), a4]
      exact Or.inr (Or.inl ⟨nI v, r.2, by rw [a2]; exact ni_m1 (by omega), a2, a3, q2, rfl⟩)
  · rw [if_neg (show ¬ nI 1 = 0 by decide), if_neg (show ¬ nI 1 = 0 by decide), if_pos (show nI 1 = 1 from rfl), if_pos (show nI 1 = 1 from rfl), show chI 1 = nI 100 from rfl, show (100 : Int32) = nI 100 from rfl]
    obtain ⟨q, q1, q2, q3⟩ := num_rel hT (m := 100) (by omega) h1
    generalize f_X2_readNumber P (nI 100) = c at q2 q3 ⊢
    generalize f_X6_reads R0' 0 (nI 100) = r at q2 q3 ⊢
    refine ⟨q, q1, ?_⟩
    rcases q3 with ⟨a1, a2⟩ | ⟨v, a1, a2, a3, a4⟩
    · rw [if_pos a2]; exact Or.inl ⟨a1, a2, q2⟩
    · rw [if_neg (by rw [a3]; decide), a4]
      exact Or.inr (Or.inl ⟨nI v, r.2, by rw [a2]; exact ni_m1 (by omega), a2, a3, q2, rfl⟩)
  · rw [if_neg (show ¬ nI 2 = 0 by decide), if_neg (show ¬ nI 2 = 0 by decide), if_neg (show ¬ nI 2 = 1 by decide), if_neg (show ¬ nI 2 = 1 by decide), if_pos (show nI 2 = 2 from rfl), if_neg (show ¬ nI 2 = 4 by decide), hnum]
    exact ⟨k, Nat.le_refl k, Or.inr (Or.inl ⟨1, R0', (show ¬ (1 : Int32) = -1 by decide), rfl, rfl, h1, rfl⟩)⟩
  · rw [if_neg (show ¬ nI 3 = 0 by decide), if_neg (show ¬ nI 3 = 0 by decide), if_neg (show ¬ nI 3 = 1 by decide), if_neg (show ¬ nI 3 = 1 by decide), if_neg (show ¬ nI 3 = 2 by decide), if_pos (show nI 3 = 3 from rfl), if_neg (show ¬ nI 3 = 4 by decide), hnum]
    exact ⟨k, Nat.le_refl k, Or.inr (Or.inl ⟨1, R0', (show ¬ (1 : Int32) = -1 by decide), rfl, rfl, h1, rfl⟩)⟩
  · rw [if_neg (show ¬ nI 4 = 0 by decide), if_neg (show ¬ nI 4 = 0 by decide), if_neg (show ¬ nI 4 = 1 by decide), if_neg (show ¬ nI 4 = 1 by decide), if_neg (show ¬ nI 4 = 2 by decide), if_neg (show ¬ nI 4 = 3 by decide), if_pos (show nI 4 = 4 from rfl), if_pos (show nI 4 = 4 from rfl)]
    obtain ⟨q, q1, q2, q3⟩ := grp_rel hT h1
    generalize f_X2_readGroups P = c at q2 q3 ⊢
    generalize f_X6_readsGroups R0' = r at q2 q3 ⊢
    refine ⟨q, q1, ?_⟩
    rcases q3 with ⟨a1, a2⟩ | ⟨g, g1, g2, a2, a3, a4⟩ | ⟨g, g1, g2, a2, a3, a4, a5⟩
    · rw [if_pos a2]; exact Or.inl ⟨a1, rfl, q2⟩
    · rw [if_neg (by rw [a3]; decide), a4]
      exact Or.inr (Or.inl ⟨nI g, r.2, by rw [a2]; exact ni_m1 (by omega), a2, rfl, q2, rfl⟩)
    · rw [if_pos a3]
      exact Or.inr (Or.inr ⟨by rw [a2]; exact ni_m1 (by omega), rfl, q2, a4, a5⟩)
theorem hand_rs {R : SR} {a b : Nat} {v : Int32} (ha : a < 12) (hb : b < 5) (h : RS R) : RS (f_X6_setByHand R (nI a) (nI b) v) := by
  have hl := hd_lt a ha b hb
  rw [f_X6_setByHand, sLet_eq]
  have g : RS (sU R 0 ((5 * nI a) + nI b).toNatClampNeg v) := by
    unfold RS
    rw [sU_ne (by omega), sU_ne (by omega)]
    exact h
  generalize sU R 0 ((5 * nI a) + nI b).toNatClampNeg v = S at g ⊢
  have k : ∀ w : Int32, RS (sU S 0 179 w) := fun w => by
    unfold RS
    rw [sU_ne (by omega), sU_ne (by omega)]
    exact g
  by_cases c : S 0 144 < 0
  · rw [if_pos c, sLet_eq]; exact k _
  · rw [if_neg c]
    by_cases d : nI b = 1
    · rw [if_pos d, sLet_eq]; exact k _
    · rw [if_neg d]
      by_cases d2 : nI b = 2
      · rw [if_pos d2, sLet_eq]; exact k _
      · rw [if_neg d2, sLet_eq]; exact k _
theorem cur_hand {M R : SR} {a b : Nat} {v : Int32} (ha : a < 12) (hb : b < 5) (h : CUR M (R 0)) : CUR (f_X4_setChannelByHand M (nI a) (nI b) v) ((f_X6_setByHand R (nI a) (nI b) v) 0) :=
  cur_ck h (ck_hand ck_rf) (tk_hand ha hb tk_rf) (hand_rs ha hb h.2.2.2.2.2.1)
theorem pr_row {B : SR} {T : Nat → Int32} {N : Nat} {s : Nat → Int32} {k : Nat} {P R R' : SR} (h : PR B T N s k P R) (e : ∀ r : Nat, r ≠ 0 → R' r = R r) : PR B T N (R' 0) k P R' := by
  obtain ⟨h1, h2, h3, h4, h5, h6, h7, h8, ⟨f1, f2, f3, f4, f5⟩, h10⟩ := h
  refine ⟨h1, h2, h3, h4, h5, by rw [e 6 (by decide)]; exact h6, by rw [e 6 (by decide)]; exact h7, by rw [e 3 (by decide)]; exact h8, ⟨?_, ?_, ?_, ?_, ?_⟩, rfl⟩
  · rw [e 1 (by decide)]; exact f1
  · rw [e 2 (by decide)]; exact f2
  · rw [e 3 (by decide)]; exact f3
  · rw [e 6 (by decide)]; exact f4
  · rw [e 6 (by decide)]; exact f5
/-- an item, or a part of one -/
def IR (B : SR) (T : Nat → Int32) (N : Nat) (k : Nat) (c : Int32 × SR × SR) (r : Int32 × SR) : Prop := ∃ (q : Nat) (s : Nat → Int32), k ≤ q ∧ PR B T N s q c.2.1 r.2 ∧ ((c.1 = 0 ∧ r.1 = 0) ∨ (c.1 = 1 ∧ r.1 = 1 ∧ k < q ∧ CUR c.2.2 s))
theorem ir_le {B : SR} {T : Nat → Int32} {N k k' : Nat} {c : Int32 × SR × SR} {r : Int32 × SR} (h : IR B T N k' c r) (hk : k ≤ k') : IR B T N k c r := by
  obtain ⟨q, s, a1, a2, a3⟩ := h
  refine ⟨q, s, by omega, a2, ?_⟩
  rcases a3 with z | ⟨z1, z2, z3, z4⟩
  · exact Or.inl z
  · exact Or.inr ⟨z1, z2, by omega, z4⟩
def pcnt (t : Nat) : Nat := t % 2 + t / 2 % 2 + t / 4 % 2 + t / 8 % 2 + t / 16 % 2
theorem pc_or : ∀ t : Nat, t < 32 → ∀ p : Nat, p < 5 → f_X6_has (nI t) (nI p) = 0 → nI t ||| (1 <<< (nI p &&& 31)) = nI (t ||| 2 ^ p) ∧ t < t ||| 2 ^ p ∧ t ||| 2 ^ p < 32 ∧ pcnt (t ||| 2 ^ p) = pcnt t + 1 := by decide +kernel
theorem pc_le : ∀ t : Nat, t < 32 → pcnt t ≤ 5 ∧ (pcnt t = 0 ↔ t = 0) := by decide +kernel
theorem sk_stay {B : SR} {T : Nat → Int32} {N : Nat} {s : Nat → Int32} {k : Nat} {P R : SR} (h : PR B T N s k P R) (hk : k < N) (e : ¬ T k = 32) : f_X2_skipSpaces P = P := by
  rw [f_X2_skipSpaces, show (142 : Nat) = 141 + 1 from rfl, f_X2_skipSpaces_p0, if_neg (fun z => absurd ((pr_c1 h).1.mp z) (by omega)), (pr_ch h hk).1, if_neg e]
theorem dig_stop {B : SR} {T : Nat → Int32} {N : Nat} {s : Nat → Int32} {k ch t n : Nat} {a : Int32} {P R M : SR} (h : PR B T N s k P R) (hk : k < N) (h1 : 48 ≤ ch ∧ ch < 58) (e : T k = nI ch) (ht : t < 32) (ht0 : ¬ t = 0) : f_X2_readChannelItem_p19 (n + 1) a (nI t) (nI (pcnt t)) P M = (0, P, M) := by
  obtain ⟨p1, p2⟩ := pc_le t ht
  have e32 : ¬ T k = 32 := fun z => by
    have := (nI_eq (a := ch) (b := 32) (by omega) (by omega)).mp (e.symm.trans z)
    omega
  have e59 : ¬ T k = 59 := fun z => by
    have := (nI_eq (a := ch) (b := 59) (by omega) (by omega)).mp (e.symm.trans z)
    omega
  have hs := sk_stay h hk e32
  have c1 : ¬ P 1 0 ≤ P 1 1 := fun z => absurd ((pr_c1 h).1.mp z) (by omega)
  have hp : ¬ pcnt t = 0 := fun z => ht0 (p2.mp z)
  have hx : f_J0_indexOf_0f7a4 (T k) < 0 := by
    rw [e, (ix_part ch (by omega)).1, if_pos ((ix_part ch (by omega)).2.2 ⟨h1.1, by omega⟩)]
    decide
  have tk : f_X2_takes P 59 = (0, P) := by
    rw [f_X2_takes, hs, sLet_eq, if_neg c1, (pr_ch h hk).1, if_neg e59]
  have lt : f_X2_readLetter P (nI t) = (-1, P) := by
    rw [f_X2_readLetter, hs, sLet_eq, if_neg c1, (pr_ch h hk).1, if_pos hx]
  rw [f_X2_readChannelItem_p19, if_neg (show ¬ (5 : Int32) < nI (pcnt t) from fun z => absurd ((nI_ltI (a := 5) (by omega) (by omega)).mp z) (by omega)), if_neg (nI_nle (by omega) (by omega)), tk, sLet_eq, if_pos rfl, f_X2_readChannelItem_p44, lt, sLet_eq, if_pos rfl]
/-- the reference's body of a part -/
def rBody (m : Nat) (a t : Int32) (R : SR) : Int32 × SR := if f_X6_partOf (f_X6_here R).1 = -99 then (0, (f_X6_here R).2) else if f_X6_has t (f_X6_partOf (f_X6_here R).1) = 0 then (if (f_X6_readsPart (f_X6_here R).2 a (f_X6_partOf (f_X6_here R).1)).1 = 0 then (0, (f_X6_readsPart (f_X6_here R).2 a (f_X6_partOf (f_X6_here R).1)).2) else f_X6_readsChannel_p19 m a (t ||| (1 <<< (f_X6_partOf (f_X6_here R).1 &&& 31))) (f_X6_readsPart (f_X6_here R).2 a (f_X6_partOf (f_X6_here R).1)).2) else (0, (f_X6_here R).2)
theorem chan_st (m : Nat) (a t : Int32) (R : SR) : f_X6_readsChannel_p19 (m + 1) a t R = if t = 0 then rBody m a t R else if (f_X6_here R).1 = 59 then (1, sU (f_X6_here R).2 6 3 ((f_X6_here R).2 6 3 + 1)) else rBody m a t (f_X6_here R).2 := by
  rw [f_X6_readsChannel_p19]
  dsimp only [sLet, rBody]
theorem body_rel {B : SR} {T : Nat → Int32} {N : Nat} (hT : TOK T N) {a n1 n2 t k : Nat} (ha : a < 12) (ht : t < 32) (hn1 : 7 ≤ n1 + 1 + pcnt t) (hn2 : 32 < t + (n2 + 1)) (ih : ∀ (n2 t k : Nat) (s : Nat → Int32) (P M R : SR), PR B T N s k P R → CUR M s → t < 32 → 7 ≤ n1 + pcnt t → 32 < t + n2 → IR B T N k (f_X2_readChannelItem_p19 n1 (nI a) (nI t) (nI (pcnt t)) P M) (f_X6_readsChannel_p19 n2 (nI a) (nI t) R)) {s : Nat → Int32} {P M R : SR} (h : PR B T N s k P R) (hc : CUR M s) : IR B T N k (f_X2_readChannelItem_p44 (f_X2_readChannelItem_p19 n1) (nI a) (nI t) (nI (pcnt t)) P M) (rBody n2 (nI a) (nI t) R) := by
  obtain ⟨q, q1, q2⟩ := let_rel hT (t := t) h
  unfold rBody
  rw [f_X2_readChannelItem_p44]
  dsimp only [sLet]
  generalize f_X2_readLetter P (nI t) = L at q2 ⊢
  generalize f_X6_here R = Hh at q2 ⊢
  rcases q2 with ⟨a1, a2, a3⟩ | ⟨p, p1, a1, a2, a3, a4⟩
  · rw [if_pos a1]
    by_cases e : f_X6_partOf Hh.1 = -99
    · rw [if_pos e]; exact ⟨q, s, q1, a2, Or.inl ⟨rfl, rfl⟩⟩
    · rw [if_neg e]
      rcases a3 with a3 | a3
      · exact absurd a3 e
      · rw [if_neg a3]; exact ⟨q, s, q1, a2, Or.inl ⟨rfl, rfl⟩⟩
  · obtain ⟨o1, o2, o3, o4⟩ := pc_or t ht p p1 a3
    rw [a1, a2, if_neg (ni_m1 (by omega)), if_neg (show ¬ nI p = -99 from fun z => nI_pos (n := p) (by omega) (by rw [z]; decide)), if_pos a3, o1, nI_1, ← o4]
    obtain ⟨w, w1, w2⟩ := val_rel hT (a := a) p1 a4
    generalize f_X2_readValue L.2 (nI p) = V at w2 ⊢
    generalize f_X6_readsPart Hh.2 (nI a) (nI p) = rp at w2 ⊢
    rcases w2 with ⟨b1, b2, b3⟩ | ⟨v, R1, b0, b1, b2, b3, b4⟩ | ⟨b1, b2, b3, b4, ch, b5, b6, b7⟩
    · rw [if_pos b1, if_pos b2]; exact ⟨w, s, by omega, b3, Or.inl ⟨rfl, rfl⟩⟩
    · rw [if_neg b0, if_neg (by rw [b2]; decide), b1, b4]
      have hc1 : CUR M (R1 0) := by rw [b3.2.2.2.2.2.2.2.2.2]; exact hc
      exact ir_le (ih n2 (t ||| 2 ^ p) w _ _ _ _ (pr_row b3 (fun r hr => (tk_hand ha p1 tk_rf).1 r hr)) (cur_hand ha p1 hc1) o3 (by omega) (by omega)) (by omega)
    · rw [if_neg b1, if_pos b2]
      obtain ⟨y1, y2⟩ := pc_le _ o3
      obtain ⟨z, rfl⟩ : ∃ z, n1 = z + 1 := ⟨n1 - 1, by omega⟩
      rw [dig_stop b3 b4 ⟨b5, b6⟩ b7 o3 (by omega)]
      exact ⟨w, s, by omega, b3, Or.inl ⟨rfl, rfl⟩⟩
theorem takes_eq (P : SR) (z : Int32) : f_X2_takes P z = (if (f_X2_skipSpaces P) 1 0 ≤ (f_X2_skipSpaces P) 1 1 then (0, f_X2_skipSpaces P) else if (f_X2_skipSpaces P) 0 ((f_X2_skipSpaces P) 1 1).toNatClampNeg = z then (1, sU (f_X2_skipSpaces P) 1 1 ((f_X2_skipSpaces P) 1 1 + 1)) else (0, f_X2_skipSpaces P)) := by
  rw [f_X2_takes]
  dsimp only [sLet]
theorem takes6_eq (R : SR) (z : Int32) : f_X6_takes R z = (if (f_X6_here R).1 = z then (1, sU (f_X6_here R).2 6 3 ((f_X6_here R).2 6 3 + 1)) else (0, sU (f_X6_here R).2 6 3 ((f_X6_here R).2 6 3 + 0))) := by
  rw [f_X6_takes]
  dsimp only [sLet]
theorem ch_loop {B : SR} {T : Nat → Int32} {N : Nat} (hT : TOK T N) {a : Nat} (ha : a < 12) : ∀ (n1 n2 t k : Nat) (s : Nat → Int32) (P M R : SR), PR B T N s k P R → CUR M s → t < 32 → 7 ≤ n1 + pcnt t → 32 < t + n2 → IR B T N k (f_X2_readChannelItem_p19 n1 (nI a) (nI t) (nI (pcnt t)) P M) (f_X6_readsChannel_p19 n2 (nI a) (nI t) R) := by
  intro n1
  induction n1 with
  | zero => intro n2 t k s P M R h hc ht hn; have := (pc_le t ht).1; omega
  | succ n1 ih =>
    intro n2 t k s P M R h hc ht hn1 hn2
    obtain ⟨p1, p2⟩ := pc_le t ht
    obtain ⟨m, rfl⟩ : ∃ m, n2 = m + 1 := ⟨n2 - 1, by omega⟩
    rw [f_X2_readChannelItem_p19, chan_st, if_neg (show ¬ (5 : Int32) < nI (pcnt t) from fun z => absurd ((nI_ltI (a := 5) (by omega) (by omega)).mp z) (by omega))]
    by_cases e : t = 0
    · rw [if_pos (show nI (pcnt t) ≤ 0 by rw [p2.mpr e]; decide), if_pos (show nI t = 0 by rw [e]; rfl)]
      exact body_rel hT ha ht hn1 hn2 ih h hc
    · rw [if_neg (nI_nle (by have : ¬ pcnt t = 0 := fun z => e (p2.mp z); omega) (by omega)), if_neg (nI_ne0 (by omega) (by omega))]
      obtain ⟨q, q1, q2, q3⟩ := sk_all h
      dsimp only [sLet]
      rw [takes_eq]
      generalize f_X2_skipSpaces P = P1 at q2 ⊢
      generalize f_X6_here R = Hh at q2 q3 ⊢
      obtain ⟨c1, c2⟩ := pr_c1 q2
      rcases q3 with ⟨a1, a2, a3⟩ | ⟨a1, a2⟩
      · rw [if_neg (fun z => absurd (c1.mp z) (by omega)), (pr_ch q2 a1).1, a2]
        by_cases g : T q = 59
        · rw [if_pos g, if_pos g, if_neg (show ¬ (1 : Int32) = 0 by decide)]
          exact ⟨q + 1, s, by omega, pr_inc q2 a1, Or.inr ⟨rfl, rfl, by omega, hc⟩⟩
        · rw [if_neg g, if_neg g, if_pos rfl]
          exact ir_le (body_rel hT ha ht hn1 hn2 ih q2 hc) q1
      · rw [if_pos (c1.mpr (by omega)), if_pos rfl, a2, if_neg (show ¬ (-1 : Int32) = 59 by decide)]
        exact ir_le (body_rel hT ha ht hn1 hn2 ih q2 hc) q1
theorem chan_rel {B : SR} {T : Nat → Int32} {N : Nat} (hT : TOK T N) {k : Nat} {s : Nat → Int32} {P M R : SR} (h : PR B T N s k P R) (hc : CUR M s) : IR B T N k (f_X2_readChannelItem P M) (f_X6_readsChannel R) := by
  obtain ⟨q, q1, q2, q3⟩ := num_rel hT (m := 11) (by omega) h
  rw [f_X2_readChannelItem, f_X6_readsChannel]
  dsimp only [sLet]
  rw [show (11 : Int32) = nI 11 from rfl]
  generalize f_X2_readNumber P (nI 11) = c at q2 q3 ⊢
  generalize f_X6_reads R 0 (nI 11) = r at q2 q3 ⊢
  rcases q3 with ⟨a1, a2⟩ | ⟨v, a1, a2, a3, a4⟩
  · rw [if_pos a1, if_pos a2]; exact ⟨q, s, q1, q2, Or.inl ⟨rfl, rfl⟩⟩
  · rw [if_neg (show ¬ c.1 = -1 by rw [a2]; exact ni_m1 (by omega)), if_neg (show ¬ r.1 = 0 by rw [a3]; decide), a2, a4]
    have g := ch_loop hT (a := v) (by omega) 7 33 0 q s c.2 M r.2 q2 hc (by omega) (by omega) (by omega)
    rw [show pcnt 0 = 0 from rfl, nI_0] at g
    exact ir_le g q1
theorem send_rel {B : SR} {T : Nat → Int32} {N : Nat} (hT : TOK T N) {k f : Nat} (hf : f < 4) {s : Nat → Int32} {P M R : SR} (h : PR B T N s k P R) (hc : CUR M s) : ∃ (q : Nat) (s' : Nat → Int32), k ≤ q ∧ PR B T N s' q (f_X2_readSend P M (nI f)).2.1 (f_X6_readsSend R (nI f)).2 ∧ (((f_X2_readSend P M (nI f)).1 = 0 ∧ (f_X6_readsSend R (nI f)).1 = 0) ∨ ((f_X2_readSend P M (nI f)).1 = 1 ∧ (f_X6_readsSend R (nI f)).1 = 1 ∧ CUR (f_X2_readSend P M (nI f)).2.2 s')) := by
  obtain ⟨q, q1, q2, q3⟩ := num_rel hT (m := 11) (by omega) h
  rw [f_X2_readSend, f_X6_readsSend]
  dsimp only [sLet]
  rw [show (11 : Int32) = nI 11 from rfl, show (100 : Int32) = nI 100 from rfl]
  generalize f_X2_readNumber P (nI 11) = c at q2 q3 ⊢
  generalize f_X6_reads R 0 (nI 11) = r at q2 q3 ⊢
  rcases q3 with ⟨a1, a2⟩ | ⟨v, a1, a2, a3, a4⟩
  · rw [if_pos a1, if_pos a2]; exact ⟨q, s, q1, q2, Or.inl ⟨rfl, rfl⟩⟩
  · rw [if_neg (show ¬ c.1 = -1 by rw [a2]; exact ni_m1 (by omega)), if_neg (show ¬ r.1 = 0 by rw [a3]; decide), a2, a4]
    obtain ⟨w, w1, w2, w3⟩ := tk_rel q2 (c := 61) (by decide)
    generalize f_X2_takes c.2 61 = tc at w2 w3 ⊢
    generalize f_X6_takes r.2 61 = tr at w2 w3 ⊢
    rcases w3 with ⟨b1, b2, b3⟩ | ⟨b1, b2, b3⟩
    · rw [if_pos b1, if_pos b2]; exact ⟨w, s, by omega, w2, Or.inl ⟨rfl, rfl⟩⟩
    · rw [if_neg (show ¬ tc.1 = 0 by rw [b1]; decide), if_neg (show ¬ tr.1 = 0 by rw [b2]; decide)]
      obtain ⟨y, y1, y2, y3⟩ := num_rel hT (m := 100) (by omega) w2
      generalize f_X2_readNumber tc.2 (nI 100) = c2 at y2 y3 ⊢
      generalize f_X6_reads tr.2 0 (nI 100) = r2 at y2 y3 ⊢
      rcases y3 with ⟨d1, d2⟩ | ⟨v2, d1, d2, d3, d4⟩
      · rw [if_pos d1, if_pos d2]; exact ⟨y, s, by omega, y2, Or.inl ⟨rfl, rfl⟩⟩
      · obtain ⟨x1, x2⟩ := six f hf v (by omega)
        rw [if_neg (show ¬ c2.1 = -1 by rw [d2]; exact ni_m1 (by omega)), if_neg (show ¬ r2.1 = 0 by rw [d3]; decide), d2, d4, x1, x2]
        have hc1 : CUR M (r2.2 0) := by rw [y2.2.2.2.2.2.2.2.2.2]; exact hc
        exact ⟨y, _, by omega, pr_row y2 (fun r hr => sU_row hr), Or.inr ⟨rfl, rfl, cur_send hc1 (by omega) (nI v2)⟩⟩
theorem feed_loop {B : SR} {T : Nat → Int32} {N : Nat} (hT : TOK T N) {f : Nat} (hf : f < 4) : ∀ (n1 n2 x k : Nat) (s : Nat → Int32) (P M R : SR), PR B T N s k P R → CUR M s → x < k → 141 ≤ n1 + x → N < k + n2 → IR B T N k (f_X2_readFeedItem_p35 n1 (nI f) (nI x) P M) (f_X6_readsFeed_p40 (n2 + 1) (nI f) 1 R) := by
  intro n1
  induction n1 with
  | zero => intro n2 x k s P M R h hc hx hn; have := h.1; have := h.2.1; omega
  | succ n1 ih =>
    intro n2 x k s P M R h hc hx hn1 hn2
    have hkN := h.1; have hN := h.2.1
    obtain ⟨q, s', q1, q2, q3⟩ := send_rel hT hf h hc
    rw [f_X2_readFeedItem_p35, f_X6_readsFeed_p40, if_neg (show ¬ (140 : Int32) ≤ nI x from fun z => absurd ((nI_leI (a := 140) (by omega) (by omega)).mp z) (by omega)), if_neg (show ¬ (1 : Int32) = 0 by decide)]
    dsimp only [sLet]
    generalize f_X2_readSend P M (nI f) = c at q2 q3 ⊢
    generalize f_X6_readsSend R (nI f) = r at q2 q3 ⊢
    rcases q3 with ⟨a1, a2⟩ | ⟨a1, a2, a3⟩
    · rw [if_pos a1, if_pos a2]; exact ⟨q, s', q1, q2, Or.inl ⟨rfl, rfl⟩⟩
    · rw [if_neg (show ¬ c.1 = 0 by rw [a1]; decide), if_neg (show ¬ r.1 = 0 by rw [a2]; decide)]
      -- the class looks for ';' first, the reference for ','
      obtain ⟨w, w1, w2, w3⟩ := sk_all q2
      rw [takes_eq c.2.1 59, takes6_eq]
      generalize f_X2_skipSpaces c.2.1 = P1 at w2 ⊢
      generalize f_X6_here r.2 = Hh at w2 w3 ⊢
      obtain ⟨c1, c2⟩ := pr_c1 w2
      have hz : sU Hh.2 6 3 (Hh.2 6 3 + 0) = sU Hh.2 6 3 (nI w) := by rw [Int32.add_zero, w2.2.2.2.2.2.2.1]
      have hw := pr_r w2
      obtain ⟨m, rfl⟩ : ∃ m, n2 = m + 1 := ⟨n2 - 1, by have := w2.1; omega⟩
      rcases w3 with ⟨b1, b2, b3⟩ | ⟨b1, b2⟩
      · have ec : P1 0 (P1 1 1).toNatClampNeg = T w := (pr_ch w2 b1).1
        have nc : ¬ P1 1 0 ≤ P1 1 1 := fun z => absurd (c1.mp z) (by omega)
        have st := sk_stay w2 b1 b3
        rw [if_neg nc, ec, b2]
        by_cases g : T w = 59
        · rw [if_pos g, if_neg (show ¬ (1 : Int32) = 0 by decide), if_neg (show ¬ T w = 44 by rw [g]; decide), hz, f_X6_readsFeed_p40, if_pos rfl]
          obtain ⟨y, y1, y2, y3⟩ := tk_rel hw (c := 59) (by decide)
          have ey : f_X2_takes P1 59 = (1, sU P1 1 1 (P1 1 1 + 1)) := by rw [takes_eq, st, if_neg nc, ec, if_pos g]
          rw [ey] at y2 y3
          generalize f_X6_takes (sU Hh.2 6 3 (nI w)) 59 = tr at y2 y3 ⊢
          rcases y3 with ⟨d1, d2, d3⟩ | ⟨d1, d2, d3⟩
          · exact absurd d1 (show ¬ (1 : Int32) = 0 by decide)
          · exact ⟨y, s', by omega, y2, Or.inr ⟨rfl, d2, by omega, a3⟩⟩
        · have e44 : f_X2_takes P1 44 = (if T w = 44 then (1, sU P1 1 1 (P1 1 1 + 1)) else (0, P1)) := by
            rw [takes_eq, st, if_neg nc, ec]
          rw [if_neg g, if_pos rfl, e44]
          by_cases g2 : T w = 44
          · rw [if_pos g2, if_pos g2, if_neg (show ¬ (1 : Int32) = 0 by decide), nI_1]
            exact ir_le (ih m (x + 1) (w + 1) s' _ _ _ (pr_inc w2 b1) a3 (by omega) (by omega) (by omega)) (by omega)
          · rw [if_neg g2, if_pos rfl, if_neg g2, hz, f_X6_readsFeed_p40, if_pos rfl]
            obtain ⟨y, y1, y2, y3⟩ := tk_rel hw (c := 59) (by decide)
            have ey : f_X2_takes P1 59 = (0, P1) := by rw [takes_eq, st, if_neg nc, ec, if_neg g]
            rw [ey] at y2 y3
            generalize f_X6_takes (sU Hh.2 6 3 (nI w)) 59 = tr at y2 y3 ⊢
            rcases y3 with ⟨d1, d2, d3⟩ | ⟨d1, d2, d3⟩
            · exact ⟨y, s', by omega, y2, Or.inl ⟨rfl, d2⟩⟩
            · exact absurd d1 (show ¬ (0 : Int32) = 1 by decide)
      · have nc : P1 1 0 ≤ P1 1 1 := c1.mpr (by omega)
        have ey : ∀ z : Int32, f_X2_takes P1 z = (0, P1) := fun z => by
          have st : f_X2_skipSpaces P1 = P1 := by
            rw [f_X2_skipSpaces, show (142 : Nat) = 141 + 1 from rfl, f_X2_skipSpaces_p0, if_pos nc]
          rw [takes_eq, st, if_pos nc]
        rw [if_pos nc, if_pos rfl, ey 44, if_pos rfl, b2, if_neg (show ¬ (-1 : Int32) = 44 by decide), hz, f_X6_readsFeed_p40, if_pos rfl]
        obtain ⟨y, y1, y2, y3⟩ := tk_rel hw (c := 59) (by decide)
        rw [ey 59] at y2 y3
        generalize f_X6_takes (sU Hh.2 6 3 (nI w)) 59 = tr at y2 y3 ⊢
        rcases y3 with ⟨d1, d2, d3⟩ | ⟨d1, d2, d3⟩
        · exact ⟨y, s', by omega, y2, Or.inl ⟨rfl, d2⟩⟩
        · exact absurd d1 (show ¬ (0 : Int32) = 1 by decide)
theorem feed_rel {B : SR} {T : Nat → Int32} {N : Nat} (hT : TOK T N) {k : Nat} {s : Nat → Int32} {P M R : SR} (h : PR B T N s k P R) (hc : CUR M s) : IR B T N k (f_X2_readFeedItem P M) (f_X6_readsFeed R) := by
  obtain ⟨q, q1, q2, q3⟩ := num_rel hT (m := 3) (by omega) h
  rw [f_X2_readFeedItem, f_X6_readsFeed]
  dsimp only [sLet]
  rw [show (3 : Int32) = nI 3 from rfl]
  generalize f_X2_readNumber P (nI 3) = c at q2 q3 ⊢
  generalize f_X6_reads R 0 (nI 3) = r at q2 q3 ⊢
  rcases q3 with ⟨a1, a2⟩ | ⟨v, a1, a2, a3, a4⟩
  · rw [if_pos a1, if_pos a2]; exact ⟨q, s, q1, q2, Or.inl ⟨rfl, rfl⟩⟩
  · rw [if_neg (show ¬ c.1 = -1 by rw [a2]; exact ni_m1 (by omega)), if_neg (show ¬ r.1 = 0 by rw [a3]; decide), a2, a4]
    obtain ⟨w, w1, w2, w3⟩ := tk_rel q2 (c := 58) (by decide)
    generalize f_X2_takes c.2 58 = tc at w2 w3 ⊢
    generalize f_X6_takes r.2 58 = tr at w2 w3 ⊢
    rcases w3 with ⟨b1, b2, b3⟩ | ⟨b1, b2, b3⟩
    · rw [if_pos b1, if_pos b2]; exact ⟨w, s, by omega, w2, Or.inl ⟨rfl, rfl⟩⟩
    · rw [if_neg (show ¬ tc.1 = 0 by rw [b1]; decide), if_neg (show ¬ tr.1 = 0 by rw [b2]; decide)]
      obtain ⟨y, y1, y2, y3⟩ := tk_rel w2 (c := 59) (by decide)
      generalize f_X2_takes tc.2 59 = tc2 at y2 y3 ⊢
      generalize f_X6_takes tr.2 59 = tr2 at y2 y3 ⊢
      rcases y3 with ⟨d1, d2, d3⟩ | ⟨d1, d2, d3⟩
      · rw [if_pos d1, if_pos d2]
        have := y2.1; have := y2.2.1
        have g := feed_loop hT (f := v) (by omega) 141 143 0 y s tc2.2 M tr2.2 y2 hc (by omega) (by omega) (by omega)
        rw [nI_0] at g
        exact ir_le g (by omega)
      · rw [if_neg (show ¬ tc2.1 = 0 by rw [d1]; decide), if_neg (show ¬ tr2.1 = 0 by rw [d2]; decide)]
        exact ⟨y, s, by omega, y2, Or.inr ⟨rfl, rfl, by omega, hc⟩⟩
theorem item_rel {B : SR} {T : Nat → Int32} {N : Nat} (hT : TOK T N) {k : Nat} {s : Nat → Int32} {P M R : SR} (h : PR B T N s k P R) (hc : CUR M s) : ∃ (q : Nat) (s' : Nat → Int32), k ≤ q ∧ PR B T N s' q (f_X2_readItem P M).2.1 (f_X6_readsItem R).2 ∧ (((f_X2_readItem P M).1 = 0 ∧ (f_X6_readsItem R).1 = 0) ∨ ((f_X2_readItem P M).1 = 1 ∧ (f_X6_readsItem R).1 = 1 ∧ k + 1 < q ∧ CUR (f_X2_readItem P M).2.2 s')) := by
  obtain ⟨q, q1, q2, q3⟩ := tk_rel h (c := 99) (by decide)
  rw [f_X2_readItem, f_X6_readsItem]
  dsimp only [sLet]
  generalize f_X2_takes P 99 = c at q2 q3 ⊢
  generalize f_X6_takes R 99 = r at q2 q3 ⊢
  rcases q3 with ⟨a1, a2, a3⟩ | ⟨a1, a2, a3⟩
  · rw [if_pos a1, if_pos a2]
    obtain ⟨w, w1, w2, w3⟩ := tk_rel q2 (c := 120) (by decide)
    generalize f_X2_takes c.2 120 = tc at w2 w3 ⊢
    generalize f_X6_takes r.2 120 = tr at w2 w3 ⊢
    rcases w3 with ⟨b1, b2, b3⟩ | ⟨b1, b2, b3⟩
    · rw [if_pos b1, if_pos b2]; exact ⟨w, s, by omega, w2, Or.inl ⟨rfl, rfl⟩⟩
    · rw [if_neg (show ¬ tc.1 = 0 by rw [b1]; decide), if_neg (show ¬ tr.1 = 0 by rw [b2]; decide)]
      obtain ⟨y, s', y1, y2, y3⟩ := feed_rel hT w2 hc
      generalize f_X2_readFeedItem tc.2 M = fc at y2 y3 ⊢
      generalize f_X6_readsFeed tr.2 = fr at y2 y3 ⊢
      rcases y3 with ⟨d1, d2⟩ | ⟨d1, d2, d3, d4⟩
      · rw [if_pos d2]; exact ⟨y, s', by omega, y2, Or.inl ⟨d1, rfl⟩⟩
      · rw [if_neg (show ¬ fr.1 = 0 by rw [d2]; decide)]; exact ⟨y, s', by omega, y2, Or.inr ⟨d1, rfl, by omega, d4⟩⟩
  · rw [if_neg (show ¬ c.1 = 0 by rw [a1]; decide), if_neg (show ¬ r.1 = 0 by rw [a2]; decide)]
    obtain ⟨y, s', y1, y2, y3⟩ := chan_rel hT q2 hc
    generalize f_X2_readChannelItem c.2 M = fc at y2 y3 ⊢
    generalize f_X6_readsChannel r.2 = fr at y2 y3 ⊢
    rcases y3 with ⟨d1, d2⟩ | ⟨d1, d2, d3, d4⟩
    · exact ⟨y, s', by omega, y2, Or.inl ⟨d1, d2⟩⟩
    · exact ⟨y, s', by omega, y2, Or.inr ⟨d1, d2, by omega, d4⟩⟩
