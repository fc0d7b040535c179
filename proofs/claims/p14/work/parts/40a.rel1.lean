/-! the class's state and the reference's, side by side: what both keep of sends, owners, returns, scenes that are not empty, ticks; history; text -/
theorem bi (x a b : Int32) (hb : b.toInt + 1 = a.toInt) : f_X5_isBelow x a = f_X6_in x 0 b := by
  unfold f_X5_isBelow f_X6_in
  by_cases c : x < 0
  · rw [if_pos c, if_pos c]
  · rw [if_neg c, if_neg c]
    by_cases d : a ≤ x
    · rw [if_pos d, if_pos (by rw [Int32.le_iff_toInt_le] at d; rw [Int32.lt_iff_toInt_lt]; omega)]
    · rw [if_neg d, if_neg (by rw [Int32.le_iff_toInt_le] at d; rw [Int32.lt_iff_toInt_lt]; omega)]
theorem e12 (x : Int32) : f_X5_isBelow x 12 = f_X6_isChannel x := bi x 12 11 (by decide)
theorem e4 (x : Int32) : f_X5_isBelow x 4 = f_X6_isFour x := bi x 4 3 (by decide)
theorem e6 (x : Int32) : f_X5_isBelow x 6 = f_X6_isScene x := bi x 6 5 (by decide)
theorem ew (x a b : Int32) : f_X5_isWithin x a b = f_X6_in x a b := rfl
theorem vu_eq {α : Type} {f : Nat → α} {k : Nat} {v : α} : va_up f k v k = v := if_pos rfl
theorem vu_ne {α : Type} {f : Nat → α} {k j : Nat} {v : α} (h : j ≠ k) : va_up f k v j = f j := if_neg h
theorem sU_eq {R : SR} {r k : Nat} {v : Int32} : sU R r k v r k = v := by
  unfold sU
  rw [vu_eq]
  exact if_pos rfl
theorem sU_ne {R : SR} {r k j : Nat} {v : Int32} (h : j ≠ k) : sU R r k v r j = R r j := by
  unfold sU
  rw [vu_eq]
  exact if_neg h
theorem sU_row {R : SR} {r q k : Nat} {v : Int32} (h : q ≠ r) : sU R r k v q = R q := by
  unfold sU
  exact vu_ne h
theorem part_eq (a b : Int32) : f_X6_isPart a b = if f_X5_isBelow a 5 = 0 then 0 else f_X5_isWithin b 0 (chI a.toNatClampNeg) := by
  by_cases c0 : a = 0
  · subst c0; rw [f_X6_isPart, if_pos rfl, if_neg (by decide)]; rfl
  by_cases c1 : a = 1
  · subst c1; rw [f_X6_isPart, if_neg (by decide), if_pos rfl, if_neg (by decide)]; rfl
  by_cases c2 : a = 2
  · subst c2; rw [f_X6_isPart, if_neg (by decide), if_neg (by decide), if_pos rfl, if_neg (by decide)]; rfl
  by_cases c3 : a = 3
  · subst c3; rw [f_X6_isPart, if_neg (by decide), if_neg (by decide), if_neg (by decide), if_pos rfl, if_neg (by decide)]; rfl
  by_cases c4 : a = 4
  · subst c4; rw [f_X6_isPart, if_neg (by decide), if_neg (by decide), if_neg (by decide), if_neg (by decide), if_pos rfl, if_neg (by decide)]; rfl
  rw [f_X6_isPart, if_neg c0, if_neg c1, if_neg c2, if_neg c3, if_neg c4]
  by_cases d : f_X5_isBelow a 5 = 0
  · rw [if_pos d]
  · obtain ⟨j, hj, e⟩ := vp_in_of (below_vp (n := 5) d) (by decide)
    rcases (show j = 0 ∨ j = 1 ∨ j = 2 ∨ j = 3 ∨ j = 4 by omega) with rfl | rfl | rfl | rfl | rfl
    · exact absurd e c0
    · exact absurd e c1
    · exact absurd e c2
    · exact absurd e c3
    · exact absurd e c4
theorem cl_add (a j : Nat) (h : a + j < 2 ^ 31) : (nI a + nI j).toNatClampNeg = a + j := by rw [nI_add, nI_clamp h]
/-- what both keep -/
def CUR (M : SR) (s : Nat → Int32) : Prop :=
  (∀ k : Nat, k < 48 → s (88 + k) = M 3 k) ∧ (∀ f : Nat, f < 4 → s (80 + f) = M 4 f) ∧ (∀ f : Nat, f < 4 → s (84 + f) = M 5 f) ∧ (∃ m : Nat, m < 64 ∧ M 10 7 = nI m ∧ ∀ k : Nat, k < 6 → s (181 + 18 * k) = nI (m / 2 ^ k % 2)) ∧ s 140 = M 10 3 ∧ (0 ≤ s 144 → ¬ s 145 = 0) ∧ ∀ f : Nat, f < 4 → vp_in (M 4 f) 4096
theorem cur_s {M : SR} {s s' : Nat → Int32} (h : CUR M s) (e : ∀ k : Nat, k < 289 → s' k = s k) : CUR M s' := by
  obtain ⟨h1, h2, h3, ⟨m, m1, m2, m3⟩, h5, h6, h7⟩ := h
  refine ⟨fun k hk => ?_, fun f hf => ?_, fun f hf => ?_, ⟨m, m1, m2, fun k hk => ?_⟩, ?_, ?_, h7⟩
  · rw [e _ (by omega)]; exact h1 k hk
  · rw [e _ (by omega)]; exact h2 f hf
  · rw [e _ (by omega)]; exact h3 f hf
  · rw [e _ (by omega)]; exact m3 k hk
  · rw [e _ (by omega)]; exact h5
  · rw [e _ (by omega), e _ (by omega)]; exact h6
/-- the class's rows that stay -/
def CK (M M' : SR) : Prop := M' 3 = M 3 ∧ M' 4 = M 4 ∧ M' 5 = M 5 ∧ M' 10 7 = M 10 7 ∧ M' 10 3 = M 10 3
theorem ck_rf {M : SR} : CK M M := ⟨rfl, rfl, rfl, rfl, rfl⟩
theorem ck_tr {A B C : SR} (h : CK A B) (g : CK B C) : CK A C := ⟨g.1.trans h.1, g.2.1.trans h.2.1, g.2.2.1.trans h.2.2.1, g.2.2.2.1.trans h.2.2.2.1, g.2.2.2.2.trans h.2.2.2.2⟩
theorem ck_s {A M : SR} (h : CK A M) {r k : Nat} {v : Int32} (h3 : r ≠ 3 := by decide) (h4 : r ≠ 4 := by decide) (h5 : r ≠ 5 := by decide) (h10 : r ≠ 10 := by decide) : CK A (sU M r k v) :=
  ck_tr h ⟨sU_row (Ne.symm h3), sU_row (Ne.symm h4), sU_row (Ne.symm h5), by rw [sU_row (Ne.symm h10)], by rw [sU_row (Ne.symm h10)]⟩
theorem ck_s10 {A M : SR} (h : CK A M) {k : Nat} {v : Int32} (h7 : k ≠ 7 := by decide) (h3 : k ≠ 3 := by decide) : CK A (sU M 10 k v) :=
  ck_tr h ⟨sU_row (by decide), sU_row (by decide), sU_row (by decide), sU_ne (Ne.symm h7), sU_ne (Ne.symm h3)⟩
theorem ck_r {A M : SR} (h : CK A M) {r : Nat} {v : Nat → Int32} (h3 : r ≠ 3 := by decide) (h4 : r ≠ 4 := by decide) (h5 : r ≠ 5 := by decide) (h10 : r ≠ 10 := by decide) : CK A (sR M r v) := by
  refine ck_tr h ⟨?_, ?_, ?_, ?_, ?_⟩
  · exact vu_ne (Ne.symm h3)
  · exact vu_ne (Ne.symm h4)
  · exact vu_ne (Ne.symm h5)
  · unfold sR; rw [vu_ne (Ne.symm h10)]
  · unfold sR; rw [vu_ne (Ne.symm h10)]
theorem ck_fd {A M F : SR} (h : CK A M) : CK A (mFd M F) := by
  unfold mFd
  refine ck_tr h ⟨?_, ?_, ?_, ?_, ?_⟩
  · rw [vu_ne (by decide), vu_ne (by decide)]
  · rw [vu_ne (by decide), vu_ne (by decide)]
  · rw [vu_ne (by decide), vu_ne (by decide)]
  · rw [vu_ne (by decide), vu_ne (by decide)]
  · rw [vu_ne (by decide), vu_ne (by decide)]
/-- the reference's places that stay -/
def TK (R R' : SR) : Prop := (∀ r : Nat, r ≠ 0 → R' r = R r) ∧ (∀ k : Nat, 80 ≤ k → k < 136 → R' 0 k = R 0 k) ∧ (∀ j : Nat, 181 ≤ j → R' 0 j = R 0 j) ∧ R' 0 140 = R 0 140
theorem tk_rf {R : SR} : TK R R := ⟨fun _ _ => rfl, fun _ _ _ => rfl, fun _ _ => rfl, rfl⟩
theorem tk_tr {A B C : SR} (h : TK A B) (g : TK B C) : TK A C := ⟨fun r hr => (g.1 r hr).trans (h.1 r hr), fun k h1 h2 => (g.2.1 k h1 h2).trans (h.2.1 k h1 h2), fun j hj => (g.2.2.1 j hj).trans (h.2.2.1 j hj), g.2.2.2.trans h.2.2.2⟩
theorem tk_s {A R : SR} (h : TK A R) {k : Nat} {v : Int32} (hk : k < 80 ∨ (136 ≤ k ∧ k < 181 ∧ k ≠ 140)) : TK A (sU R 0 k v) :=
  tk_tr h ⟨fun r hr => sU_row hr, fun j h1 h2 => sU_ne (by omega), fun j hj => sU_ne (by omega), sU_ne (by omega)⟩
theorem cur_ck {M M' : SR} {R R' : SR} (h : CUR M (R 0)) (c : CK M M') (t : TK R R') (hs : RS R') : CUR M' (R' 0) := by
  obtain ⟨h1, h2, h3, ⟨m, m1, m2, m3⟩, h5, h6, h7⟩ := h
  obtain ⟨c3, c4, c5, c7, c1⟩ := c
  refine ⟨fun k hk => ?_, fun f hf => ?_, fun f hf => ?_, ⟨m, m1, ?_, fun k hk => ?_⟩, ?_, hs, fun f hf => ?_⟩
  · rw [t.2.1 _ (by omega) (by omega), c3]; exact h1 k hk
  · rw [t.2.1 _ (by omega) (by omega), c4]; exact h2 f hf
  · rw [t.2.1 _ (by omega) (by omega), c5]; exact h3 f hf
  · rw [c7]; exact m2
  · rw [t.2.2.1 _ (by omega)]; exact m3 k hk
  · rw [t.2.2.2, c1]; exact h5
  · rw [c4]; exact h7 f hf
/-! what is kept in the history -/
def HIST (G : GR) (R : SR) : Prop := ∃ nx sz : Nat, nx < 5 ∧ sz ≤ 5 ∧ (G 7) 0 0 = nI nx ∧ (G 7) 0 1 = nI sz ∧ R 6 1 = nI sz ∧ ∀ i : Nat, i < sz → CUR (G (2 + (nx + 5 - sz + i) % 5)) (fun k => R 2 (289 * i + k))
def TXT (P R : SR) : Prop := ∃ N : Nat, N ≤ 140 ∧ P 1 0 = nI N ∧ R 6 2 = nI N ∧ ∀ j : Nat, j < N → P 0 j = R 3 j ∧ ∃ c : Nat, 0 < c ∧ c < 256 ∧ R 3 j = nI c
def REL3 (G : GR) (R : SR) : Prop := CUR (G 0) (R 0) ∧ HIST G R ∧ TXT (G 9) R
def REL (G : GR) (R : SR) : Prop := WFG G ∧ REL3 G R
theorem hist_R {G : GR} {R R' : SR} (h : HIST G R) (e2 : R' 2 = R 2) (e1 : R' 6 1 = R 6 1) : HIST G R' := by
  unfold HIST
  rw [e2, e1]
  exact h
theorem txt_R {P R R' : SR} (h : TXT P R) (e3 : R' 3 = R 3) (e2 : R' 6 2 = R 6 2) : TXT P R' := by
  unfold TXT
  rw [e3, e2]
  exact h
theorem rel3_R {G : GR} {R R' : SR} (h : REL3 G R) (e0 : ∀ k : Nat, k < 289 → R' 0 k = R 0 k) (e2 : R' 2 = R 2) (e3 : R' 3 = R 3) (e1 : R' 6 1 = R 6 1) (e : R' 6 2 = R 6 2) : REL3 G R' :=
  ⟨cur_s h.1 e0, hist_R h.2.1 e2 e1, txt_R h.2.2 e3 e⟩
theorem rel3_ro {G : GR} {R : SR} (h : REL3 G R) : REL3 G (sU R 6 0 0) :=
  rel3_R h (fun k _ => by rw [sU_row (by decide)]) (sU_row (by decide)) (sU_row (by decide)) (sU_ne (by decide)) (sU_ne (by decide))
theorem hist_now {G : GR} {R : SR} (h : HIST G R) {M : SR} : HIST (va_up G 0 M) R := by
  obtain ⟨nx, sz, h1, h2, h3, h4, h5, h6⟩ := h
  exact ⟨nx, sz, h1, h2, by rw [vu_ne (by decide)]; exact h3, by rw [vu_ne (by decide)]; exact h4, h5, fun i hi => by rw [vu_ne (by omega)]; exact h6 i hi⟩
theorem rel3_now {G : GR} {R R' : SR} (h : REL3 G R) {M : SR} (hc : CUR M (R' 0)) (e2 : R' 2 = R 2) (e3 : R' 3 = R 3) (e1 : R' 6 1 = R 6 1) (e : R' 6 2 = R 6 2) : REL3 (va_up G 0 M) R' := by
  refine ⟨by rw [vu_eq]; exact hc, hist_now (hist_R h.2.1 e2 e1), ?_⟩
  rw [vu_ne (by decide)]
  exact txt_R h.2.2 e3 e
theorem hist_other {G : GR} {R : SR} (h : HIST G R) {k : Nat} {M : SR} (hk : k = 1 ∨ 7 < k) : HIST (va_up G k M) R := by
  obtain ⟨nx, sz, h1, h2, h3, h4, h5, h6⟩ := h
  refine ⟨nx, sz, h1, h2, by rw [vu_ne (by omega)]; exact h3, by rw [vu_ne (by omega)]; exact h4, h5, fun i hi => ?_⟩
  have := Nat.mod_lt (nx + 5 - sz + i) (show 0 < 5 by omega)
  rw [vu_ne (by omega)]
  exact h6 i hi
theorem rel3_other {G : GR} {R : SR} (h : REL3 G R) {k : Nat} {M : SR} (hk : k = 1 ∨ k = 8) : REL3 (va_up G k M) R := by
  refine ⟨by rw [vu_ne (by omega)]; exact h.1, hist_other h.2.1 (by omega), ?_⟩
  rw [vu_ne (by omega)]
  exact h.2.2
theorem rel3_text {G : GR} {R : SR} (h : REL3 G R) {P R' : SR} (e0 : R' 0 = R 0) (e2 : R' 2 = R 2) (e1 : R' 6 1 = R 6 1) (ht : TXT P R') : REL3 (va_up G 9 P) R' := by
  refine ⟨by rw [vu_ne (by decide), e0]; exact h.1, hist_other (hist_R h.2.1 e2 e1) (by omega), ?_⟩
  rw [vu_eq]
  exact ht
/-! keep and act -/
theorem nx5 : ∀ n : Nat, n < 5 → (nI n + 1) - (nI n + 1) / 5 * 5 = nI ((n + 1) % 5) := by decide +kernel
theorem sz5 : ∀ n : Nat, n ≤ 5 → (if 5 < nI n + 1 then 5 else nI n + 1) = nI (if n = 5 then 5 else n + 1) := by
  intro n hn
  rcases (show n = 0 ∨ n = 1 ∨ n = 2 ∨ n = 3 ∨ n = 4 ∨ n = 5 by omega) with rfl | rfl | rfl | rfl | rfl | rfl <;> decide +kernel
theorem keep_1 {G : GR} {k : Nat} (A B : SR) (e : f_X1_keep G = va_up (va_up (va_up G k (G 0)) 7 A) 7 B) (hk : 1 < k ∧ k < 7) : (f_X1_keep G) 0 = G 0 ∧ (f_X1_keep G) 1 = G 1 ∧ (f_X1_keep G) 9 = G 9 ∧ (f_X1_keep G) 7 = B ∧ (f_X1_keep G) k = G 0 ∧ ∀ j : Nat, j < 7 → j ≠ k → (f_X1_keep G) j = G j := by
  rw [e]
  refine ⟨?_, ?_, ?_, vu_eq, ?_, fun j hj hjk => ?_⟩
  · rw [vu_ne (by omega), vu_ne (by omega), vu_ne (by omega)]
  · rw [vu_ne (by omega), vu_ne (by omega), vu_ne (by omega)]
  · rw [vu_ne (by omega), vu_ne (by omega), vu_ne (by omega)]
  · rw [vu_ne (by omega), vu_ne (by omega), vu_eq]
  · rw [vu_ne (by omega), vu_ne (by omega), vu_ne (by omega)]
def kpA (G : GR) (k : Nat) : SR := sU ((va_up G k (G 0)) 7) 0 0 (((((va_up G k (G 0)) 7) 0 0) + 1) - ((((va_up G k (G 0)) 7) 0 0) + 1) / 5 * 5)
def kpB (G : GR) (k : Nat) : SR := sU ((va_up (va_up G k (G 0)) 7 (kpA G k)) 7) 0 1 (if 5 < ((((va_up (va_up G k (G 0)) 7 (kpA G k)) 7) 0 1) + 1) then 5 else ((((va_up (va_up G k (G 0)) 7 (kpA G k)) 7) 0 1) + 1))
theorem kpB_eq {G : GR} {k : Nat} (hk : k < 7) : kpB G k = sU (sU (G 7) 0 0 ((((G 7) 0 0) + 1) - (((G 7) 0 0) + 1) / 5 * 5)) 0 1 (if 5 < (((G 7) 0 1) + 1) then 5 else (((G 7) 0 1) + 1)) := by
  unfold kpB
  rw [vu_eq]
  unfold kpA
  rw [vu_ne (show 7 ≠ k by omega), sU_ne (show 1 ≠ 0 by decide)]
theorem keep_2 (G : GR) {n : Nat} (hn : n < 5) (h : (G 7) 0 0 = nI n) : f_X1_keep G = va_up (va_up (va_up G (2 + n) (G 0)) 7 (kpA G (2 + n))) 7 (kpB G (2 + n)) := by
  rcases (show n = 0 ∨ n = 1 ∨ n = 2 ∨ n = 3 ∨ n = 4 by omega) with rfl | rfl | rfl | rfl | rfl
  · rw [f_X1_keep, if_pos (show (G 7) 0 0 = 0 from h), sLet_eq, sLet_eq, sLet_eq]; try rfl
  · rw [f_X1_keep, if_neg (show ¬ (G 7) 0 0 = 0 by rw [h]; decide), if_pos (show (G 7) 0 0 = 1 from h), sLet_eq, sLet_eq, sLet_eq]; try rfl
  · rw [f_X1_keep, if_neg (show ¬ (G 7) 0 0 = 0 by rw [h]; decide), if_neg (show ¬ (G 7) 0 0 = 1 by rw [h]; decide), if_pos (show (G 7) 0 0 = 2 from h), sLet_eq, sLet_eq, sLet_eq]; try rfl
  · rw [f_X1_keep, if_neg (show ¬ (G 7) 0 0 = 0 by rw [h]; decide), if_neg (show ¬ (G 7) 0 0 = 1 by rw [h]; decide), if_neg (show ¬ (G 7) 0 0 = 2 by rw [h]; decide), if_pos (show (G 7) 0 0 = 3 from h), sLet_eq, sLet_eq, sLet_eq]; try rfl
  · rw [f_X1_keep, if_neg (show ¬ (G 7) 0 0 = 0 by rw [h]; decide), if_neg (show ¬ (G 7) 0 0 = 1 by rw [h]; decide), if_neg (show ¬ (G 7) 0 0 = 2 by rw [h]; decide), if_neg (show ¬ (G 7) 0 0 = 3 by rw [h]; decide), if_pos (show (G 7) 0 0 = 4 from h), sLet_eq, sLet_eq, sLet_eq]; try rfl
theorem act51_r : ∀ (n : Nat) (x : Int32) (R : SR) (r : Nat), r ≠ 2 → r ≠ 6 → (f_X6_act_p51 n x R) r = R r := by
  intro n
  induction n with
  | zero => intro x R r h2 h6; rfl
  | succ n ih =>
    intro x R r h2 h6
    rw [f_X6_act_p51]
    by_cases c : (289 : Int32) ≤ x
    · rw [if_pos c, sLet_eq]; exact sU_row h6
    · rw [if_neg c, sLet_eq, ih _ _ r h2 h6]; exact sU_row h2
theorem act10_r : ∀ (n : Nat) (x : Int32) (R : SR) (r : Nat), r ≠ 2 → r ≠ 6 → (f_X6_act_p10 n x R) r = R r := by
  intro n
  induction n with
  | zero => intro x R r h2 h6; rfl
  | succ n ih =>
    intro x R r h2 h6
    rw [f_X6_act_p10]
    by_cases c : (1156 : Int32) ≤ x
    · rw [if_pos c, sLet_eq, f_X6_act_p49, act51_r _ _ _ r h2 h6]; exact sU_row h6
    · rw [if_neg c, sLet_eq, ih _ _ r h2 h6]; exact sU_row h2
theorem act_r {R : SR} {r : Nat} (h2 : r ≠ 2) (h6 : r ≠ 6) : (f_X6_act R) r = R r := by
  unfold f_X6_act
  by_cases c : R 6 1 = 5
  · rw [if_pos c, act10_r _ _ _ r h2 h6]
  · rw [if_neg c, f_X6_act_p49, act51_r _ _ _ r h2 h6]
theorem act_0 (R : SR) : (f_X6_act R) 0 = R 0 := act_r (by decide) (by decide)
theorem ix289 {z j : Nat} (hz : z < 5) (hj : j < 289) : ((289 * nI z) + nI j).toNatClampNeg = 289 * z + j := by
  have e : (289 : Int32) * nI z = nI (289 * z) := (by decide +kernel : ∀ z : Nat, z < 5 → (289 : Int32) * nI z = nI (289 * z)) z hz
  rw [e, nI_add, nI_clamp (by omega)]
theorem act51_2 {z : Nat} (hz : z < 5) : ∀ (n k : Nat) (R : SR), k ≤ 289 → 289 < k + n → R 6 1 = nI z → (∀ j : Nat, (f_X6_act_p51 n (nI k) R) 2 j = if 289 * z + k ≤ j ∧ j < 289 * z + 289 then R 0 (j - 289 * z) else R 2 j) ∧ (f_X6_act_p51 n (nI k) R) 6 1 = nI (z + 1) ∧ ∀ j : Nat, j ≠ 1 → (f_X6_act_p51 n (nI k) R) 6 j = R 6 j := by
  intro n
  induction n with
  | zero => intro k R h1 h2; omega
  | succ n ih =>
    intro k R h1 h2 hR
    rw [f_X6_act_p51]
    by_cases c : (289 : Int32) ≤ nI k
    · have : ¬ k < 289 := fun q => by
        rw [show (289 : Int32) = nI 289 from rfl, nI_leI (by omega) (by omega)] at c
        omega
      rw [if_pos c, sLet_eq]
      refine ⟨fun j => ?_, ?_, fun j hj => sU_ne hj⟩
      · rw [sU_row (by decide), if_neg (by omega)]
      · rw [sU_eq, hR, nI_1]
    · have hk : k < 289 := lp_ge (x := nI k) rfl (show (289 : Int32) = nI 289 from rfl) (by omega) (by omega) c
      rw [if_neg c, sLet_eq, nI_1, hR, ix289 hz hk, nI_clamp (by omega)]
      obtain ⟨i1, i2, i3⟩ := ih (k + 1) (sU R 2 (289 * z + k) (R 0 k)) (by omega) (by omega) (by rw [sU_row (by decide)]; exact hR)
      refine ⟨fun j => ?_, i2, fun j hj => by rw [i3 j hj, sU_row (by decide)]⟩
      rw [i1 j, sU_row (by decide)]
      by_cases e : j = 289 * z + k
      · subst e
        rw [if_neg (by omega), sU_eq, if_pos (by omega), show 289 * z + k - 289 * z = k by omega]
      · rw [sU_ne e]
        by_cases q : 289 * z + (k + 1) ≤ j ∧ j < 289 * z + 289
        · rw [if_pos q, if_pos (by omega)]
        · rw [if_neg q, if_neg (by omega)]
theorem act10_2 : ∀ (n k : Nat) (R : SR), k ≤ 1156 → 1156 < k + n → R 6 1 = nI 5 → (∀ j : Nat, (f_X6_act_p10 n (nI k) R) 2 j = if k ≤ j ∧ j < 1156 then R 2 (j + 289) else if 1156 ≤ j ∧ j < 1445 then R 0 (j - 1156) else R 2 j) ∧ (f_X6_act_p10 n (nI k) R) 6 1 = nI 5 ∧ ∀ j : Nat, j ≠ 1 → (f_X6_act_p10 n (nI k) R) 6 j = R 6 j := by
  intro n
  induction n with
  | zero => intro k R h1 h2; omega
  | succ n ih =>
    intro k R h1 h2 hR
    rw [f_X6_act_p10]
    by_cases c : (1156 : Int32) ≤ nI k
    · have : ¬ k < 1156 := fun q => by
        rw [show (1156 : Int32) = nI 1156 from rfl, nI_leI (by omega) (by omega)] at c
        omega
      rw [if_pos c, sLet_eq, f_X6_act_p49]
      obtain ⟨i1, i2, i3⟩ := act51_2 (z := 4) (by omega) 290 0 (sU R 6 1 (R 6 1 - 1)) (by omega) (by omega) (by rw [sU_eq, hR]; decide +kernel)
      rw [nI_0] at i1 i2 i3
      refine ⟨fun j => ?_, i2, fun j hj => by rw [i3 j hj, sU_ne hj]⟩
      rw [i1 j, sU_row (show 0 ≠ 6 by decide), sU_row (show 2 ≠ 6 by decide), if_neg (show ¬ (k ≤ j ∧ j < 1156) by omega)]
    · have hk : k < 1156 := lp_ge (x := nI k) rfl (show (1156 : Int32) = nI 1156 from rfl) (by omega) (by omega) c
      rw [if_neg c, sLet_eq, nI_1, show (289 : Int32) = nI 289 from rfl, nI_add, nI_clamp (by omega), nI_clamp (by omega)]
      obtain ⟨i1, i2, i3⟩ := ih (k + 1) (sU R 2 k (R 2 (k + 289))) (by omega) (by omega) (by rw [sU_row (by decide)]; exact hR)
      refine ⟨fun j => ?_, i2, fun j hj => by rw [i3 j hj, sU_row (by decide)]⟩
      rw [i1 j, sU_row (show 0 ≠ 2 by decide)]
      by_cases e : j = k
      · subst e
        rw [if_neg (by omega), if_neg (by omega), sU_eq, if_pos (by omega)]
      · by_cases q : k + 1 ≤ j ∧ j < 1156
        · rw [if_pos q, sU_ne (by omega), if_pos (by omega)]
        · rw [if_neg q, sU_ne e, if_neg (show ¬ (k ≤ j ∧ j < 1156) by omega)]
theorem act_lt {R : SR} {z : Nat} (hz : z < 5) (h : R 6 1 = nI z) : (∀ j : Nat, (f_X6_act R) 2 j = if 289 * z ≤ j ∧ j < 289 * z + 289 then R 0 (j - 289 * z) else R 2 j) ∧ (f_X6_act R) 6 1 = nI (z + 1) ∧ ∀ j : Nat, j ≠ 1 → (f_X6_act R) 6 j = R 6 j := by
  have c : ¬ R 6 1 = 5 := by
    rw [h]
    exact (by decide +kernel : ∀ z : Nat, z < 5 → ¬ nI z = 5) z hz
  obtain ⟨i1, i2, i3⟩ := act51_2 hz 290 0 R (by omega) (by omega) h
  rw [nI_0] at i1 i2 i3
  rw [f_X6_act, if_neg c, f_X6_act_p49]
  exact ⟨fun j => by rw [i1 j, Nat.add_zero], i2, i3⟩
theorem act_5 {R : SR} (h : R 6 1 = nI 5) : (∀ j : Nat, (f_X6_act R) 2 j = if j < 1156 then R 2 (j + 289) else if 1156 ≤ j ∧ j < 1445 then R 0 (j - 1156) else R 2 j) ∧ (f_X6_act R) 6 1 = nI 5 ∧ ∀ j : Nat, j ≠ 1 → (f_X6_act R) 6 j = R 6 j := by
  obtain ⟨i1, i2, i3⟩ := act10_2 1157 0 R (by omega) (by omega) h
  rw [nI_0] at i1 i2 i3
  rw [f_X6_act, if_pos (show R 6 1 = 5 from h)]
  refine ⟨fun j => ?_, i2, i3⟩
  rw [i1 j]
  by_cases q : j < 1156
  · rw [if_pos (by omega), if_pos q]
  · rw [if_neg (by omega), if_neg q]
theorem rel3_act {G : GR} {R : SR} (h : REL3 G R) : REL3 (f_X1_keep G) (f_X6_act R) := by
  obtain ⟨hc, ⟨nx, sz, h1, h2, h3, h4, h5, h6⟩, ht⟩ := h
  obtain ⟨k0, k1, k9, k7, kn, ko⟩ := keep_1 _ _ (keep_2 G h1 h3) (by omega)
  have b0 : (f_X1_keep G 7) 0 0 = nI ((nx + 1) % 5) := by rw [k7, kpB_eq (by omega), sU_ne (by decide), sU_eq, h3, nx5 nx h1]
  have b1 : (f_X1_keep G 7) 0 1 = nI (if sz = 5 then 5 else sz + 1) := by rw [k7, kpB_eq (by omega), sU_eq, h4, sz5 sz h2]
  have hm : ∀ x : Nat, x % 5 < 5 := fun x => Nat.mod_lt x (by omega)
  by_cases c : sz = 5
  · subst c
    obtain ⟨a1, a2, a3⟩ := act_5 h5
    refine ⟨by rw [k0, act_0]; exact hc, ⟨(nx + 1) % 5, 5, hm _, by omega, b0, by rw [b1, if_pos rfl], a2, fun i hi => ?_⟩, ?_⟩
    · by_cases q : i = 4
      · subst q
        rw [show 2 + ((nx + 1) % 5 + 5 - 5 + 4) % 5 = 2 + nx by omega, kn]
        exact cur_s hc fun k hk => by rw [a1, if_neg (by omega), if_pos (by omega), show 289 * 4 + k - 1156 = k by omega]
      · have e : 2 + ((nx + 1) % 5 + 5 - 5 + i) % 5 = 2 + (nx + 5 - 5 + (i + 1)) % 5 := by omega
        rw [e, ko _ (by have := hm (nx + 5 - 5 + (i + 1)); omega) (by omega)]
        exact cur_s (h6 (i + 1) (by omega)) fun k hk => by rw [a1, if_pos (by omega), show 289 * i + k + 289 = 289 * (i + 1) + k by omega]
    · rw [k9]; exact txt_R ht (act_r (by decide) (by decide)) (a3 2 (by decide))
  · obtain ⟨a1, a2, a3⟩ := act_lt (z := sz) (by omega) h5
    refine ⟨by rw [k0, act_0]; exact hc, ⟨(nx + 1) % 5, sz + 1, hm _, by omega, b0, by rw [b1, if_neg c], a2, fun i hi => ?_⟩, ?_⟩
    · by_cases q : i = sz
      · subst q
        rw [show 2 + ((nx + 1) % 5 + 5 - (i + 1) + i) % 5 = 2 + nx by omega, kn]
        exact cur_s hc fun k hk => by rw [a1, if_pos (by omega), show 289 * i + k - 289 * i = k by omega]
      · have e : 2 + ((nx + 1) % 5 + 5 - (sz + 1) + i) % 5 = 2 + (nx + 5 - sz + i) % 5 := by omega
        rw [e, ko _ (by have := hm (nx + 5 - sz + i); omega) (by omega)]
        exact cur_s (h6 i (by omega)) fun k hk => by rw [a1, if_neg (by omega)]
    · rw [k9]; exact txt_R ht (act_r (by decide) (by decide)) (a3 2 (by decide))
theorem keep_now {G : GR} {R : SR} (h : REL3 G R) : (f_X1_keep G) 0 = G 0 ∧ (f_X1_keep G) 1 = G 1 ∧ (f_X1_keep G) 9 = G 9 := by
  obtain ⟨-, ⟨nx, sz, h1, h2, h3, -⟩, -⟩ := h
  obtain ⟨k0, k1, k9, -⟩ := keep_1 _ _ (keep_2 G h1 h3) (by omega)
  exact ⟨k0, k1, k9⟩
/-! undo -/
theorem pv5 : ∀ n : Nat, n < 5 → ((nI n + 5) - 1) - ((nI n + 5) - 1) / 5 * 5 = nI ((n + 4) % 5) := by decide +kernel
def rsA (G : GR) : SR := sU (G 7) 0 0 (((((G 7) 0 0) + 5) - 1) - ((((G 7) 0 0) + 5) - 1) / 5 * 5)
def rsB (G : GR) : SR := sU (rsA G) 0 1 (((rsA G) 0 1) - 1)
theorem rst_1 {G : GR} {n : Nat} (hn : n < 5) (h : (rsB G) 0 0 = nI n) : f_X1_restoreInto G = va_up (va_up (va_up G 7 (rsA G)) 7 (rsB G)) 0 (G (2 + n)) := by
  have e : f_X1_restoreInto G = (fun Gn5 : GR => (if ((Gn5 7) 0 0) = 0 then va_up Gn5 0 (Gn5 2) else (if ((Gn5 7) 0 0) = 1 then va_up Gn5 0 (Gn5 3) else (if ((Gn5 7) 0 0) = 2 then va_up Gn5 0 (Gn5 4) else (if ((Gn5 7) 0 0) = 3 then va_up Gn5 0 (Gn5 5) else (if ((Gn5 7) 0 0) = 4 then va_up Gn5 0 (Gn5 6) else (fun _ _ _ => 0))))))) (va_up (va_up G 7 (rsA G)) 7 (rsB G)) := by
    unfold f_X1_restoreInto
    dsimp only [sLet]
    rw [vu_eq]
    rfl
  rw [e]
  dsimp only
  rw [vu_eq, h]
  rcases (show n = 0 ∨ n = 1 ∨ n = 2 ∨ n = 3 ∨ n = 4 by omega) with rfl | rfl | rfl | rfl | rfl
  · rw [if_pos (by decide), vu_ne (show 2 ≠ 7 by decide), vu_ne (show 2 ≠ 7 by decide)]
  · rw [if_neg (by decide), if_pos (by decide), vu_ne (show 3 ≠ 7 by decide), vu_ne (show 3 ≠ 7 by decide)]
  · rw [if_neg (by decide), if_neg (by decide), if_pos (by decide), vu_ne (show 4 ≠ 7 by decide), vu_ne (show 4 ≠ 7 by decide)]
  · rw [if_neg (by decide), if_neg (by decide), if_neg (by decide), if_pos (by decide), vu_ne (show 5 ≠ 7 by decide), vu_ne (show 5 ≠ 7 by decide)]
  · rw [if_neg (by decide), if_neg (by decide), if_neg (by decide), if_neg (by decide), if_pos (by decide), vu_ne (show 6 ≠ 7 by decide), vu_ne (show 6 ≠ 7 by decide)]
theorem undo_27 {z : Nat} (hz : z < 5) : ∀ (n k : Nat) (R : SR), k ≤ 289 → 289 < k + n → R 6 1 = nI z → ∃ S : SR, f_X6_undo_p27 n (nI k) R = (nI z, S) ∧ (∀ r : Nat, r ≠ 0 → S r = R r) ∧ ∀ j : Nat, S 0 j = if k ≤ j ∧ j < 289 then R 2 (289 * z + j) else R 0 j := by
  intro n
  induction n with
  | zero => intro k R h1 h2; omega
  | succ n ih =>
    intro k R h1 h2 hR
    rw [f_X6_undo_p27]
    by_cases c : (289 : Int32) ≤ nI k
    · have : ¬ k < 289 := fun q => by
        rw [show (289 : Int32) = nI 289 from rfl, nI_leI (by omega) (by omega)] at c
        omega
      rw [if_pos c, hR]
      exact ⟨R, rfl, fun _ _ => rfl, fun j => by rw [if_neg (by omega)]⟩
    · have hk : k < 289 := lp_ge (x := nI k) rfl (show (289 : Int32) = nI 289 from rfl) (by omega) (by omega) c
      rw [if_neg c, sLet_eq, nI_1, hR, ix289 hz hk, nI_clamp (by omega)]
      obtain ⟨S, i1, i2, i3⟩ := ih (k + 1) (sU R 0 k (R 2 (289 * z + k))) (by omega) (by omega) (by rw [sU_row (by decide)]; exact hR)
      refine ⟨S, i1, fun r hr => by rw [i2 r hr, sU_row hr], fun j => ?_⟩
      rw [i3 j, sU_row (show 2 ≠ 0 by decide)]
      by_cases e : j = k
      · subst e
        rw [if_neg (by omega), sU_eq, if_pos (by omega)]
      · rw [sU_ne e]
        by_cases q : k + 1 ≤ j ∧ j < 289
        · rw [if_pos q, if_pos (by omega)]
        · rw [if_neg q, if_neg (by omega)]
theorem undo_rel {G : GR} {R : SR} (h : REL3 G R) : (f_X5_undo G).1 = (f_X6_undo R).1 ∧ REL3 (f_X5_undo G).2 (f_X6_undo R).2 := by
  have h' := h
  obtain ⟨hc, ⟨nx, sz, h1, h2, h3, h4, h5, h6⟩, ht⟩ := h
  by_cases c : sz = 0
  · subst c
    rw [f_X5_undo, if_pos (show (G 7) 0 1 = 0 from h4), f_X6_undo, sLet_eq, if_pos (show (sU R 6 0 0) 6 1 = 0 by rw [sU_ne (by decide)]; exact h5)]
    exact ⟨rfl, rel3_ro h'⟩
  · have hz : ¬ nI sz = 0 := (by decide +kernel : ∀ z : Nat, z ≤ 5 → ¬ z = 0 → ¬ nI z = 0) sz h2 c
    have hA0 : (rsA G) 0 0 = nI ((nx + 4) % 5) := by rw [rsA, sU_eq, h3, pv5 nx h1]
    have hB0 : (rsB G) 0 0 = nI ((nx + 4) % 5) := by rw [rsB, sU_ne (by decide)]; exact hA0
    have hB1 : (rsB G) 0 1 = nI (sz - 1) := by
      rw [rsB, sU_eq, rsA, sU_ne (by decide), h4]
      obtain ⟨q, rfl⟩ : ∃ q, sz = q + 1 := ⟨sz - 1, by omega⟩
      rw [nI_pred]; rfl
    have hm : (nx + 4) % 5 < 5 := Nat.mod_lt _ (by omega)
    have er := rst_1 (G := G) hm hB0
    obtain ⟨S, i1, i2, i3⟩ := undo_27 (z := sz - 1) (by omega) 290 0 (sU (sU R 6 0 0) 6 1 (((sU R 6 0 0) 6 1) - 1)) (by omega) (by omega) (by
      rw [sU_eq, sU_ne (by decide), h5]
      obtain ⟨q, rfl⟩ : ∃ q, sz = q + 1 := ⟨sz - 1, by omega⟩
      rw [nI_pred]; rfl)
    rw [nI_0] at i1
    rw [f_X5_undo, if_neg (show ¬ (G 7) 0 1 = 0 by rw [h4]; exact hz), sLet_eq, f_X6_undo, sLet_eq, if_neg (show ¬ (sU R 6 0 0) 6 1 = 0 by rw [sU_ne (by decide), h5]; exact hz), sLet_eq, i1, er]
    dsimp only
    have s2 : S 2 = R 2 := by rw [i2 2 (by decide), sU_row (by decide), sU_row (by decide)]
    have s61 : S 6 1 = nI (sz - 1) := by
      rw [i2 6 (by decide), sU_eq, sU_ne (by decide), h5]
      obtain ⟨q, rfl⟩ : ∃ q, sz = q + 1 := ⟨sz - 1, by omega⟩
      rw [nI_pred]; rfl
    refine ⟨by rw [vu_ne (by decide), vu_eq]; exact hB1, ?_, ⟨(nx + 4) % 5, sz - 1, hm, by omega, ?_, ?_, s61, fun i hi => ?_⟩, ?_⟩
    · rw [vu_eq]
      have g := h6 (sz - 1) (by omega)
      rw [show 2 + (nx + 5 - sz + (sz - 1)) % 5 = 2 + (nx + 4) % 5 by omega] at g
      exact cur_s g fun k hk => by rw [i3 k, if_pos (by omega), sU_row (show 2 ≠ 6 by decide), sU_row (show 2 ≠ 6 by decide)]
    · rw [vu_ne (by decide), vu_eq]; exact hB0
    · rw [vu_ne (by decide), vu_eq]; exact hB1
    · have hl := Nat.mod_lt ((nx + 4) % 5 + 5 - (sz - 1) + i) (show 0 < 5 by omega)
      rw [vu_ne (by omega), vu_ne (by omega), vu_ne (by omega), s2]
      have g := h6 i (by omega)
      rw [show 2 + (nx + 5 - sz + i) % 5 = 2 + ((nx + 4) % 5 + 5 - (sz - 1) + i) % 5 by omega] at g
      exact g
    · rw [vu_ne (by decide), vu_ne (by decide), vu_ne (by decide)]
      exact txt_R ht (by rw [i2 3 (by decide), sU_row (by decide), sU_row (by decide)]) (by rw [i2 6 (by decide), sU_ne (by decide), sU_ne (by decide)])
