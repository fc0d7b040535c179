/-! what the class's methods keep -/
theorem ck_touch {A M : SR} {p : Int32} (h : CK A M) : CK A (mFd M (f_X0_touch M p)) := ck_fd h
theorem ck_end {A M : SR} (h : CK A M) : CK A (mFd M (f_X0_end M)) := ck_fd h
theorem ck_hand {A M : SR} {a b v : Int32} (h : CK A M) : CK A (f_X4_setChannelByHand M a b v) := by
  unfold f_X4_setChannelByHand f_X4_setChannelByHand_p91
  dsimp only [sLet]
  have k91 : ∀ M1 : SR, CK A M1 → CK A (if b = 1 then mFd M1 (f_X0_touch M1 a) else if b = 2 then mFd M1 (f_X0_touch M1 a) else M1) := fun M1 h1 => by
    by_cases c1 : b = 1
    · rw [if_pos c1]; exact ck_fd h1
    · rw [if_neg c1]
      by_cases c2 : b = 2
      · rw [if_pos c2]; exact ck_fd h1
      · rw [if_neg c2]; exact h1
  by_cases d0 : b = 0
  · rw [if_pos d0]; exact k91 _ (ck_s h)
  rw [if_neg d0]
  by_cases d1 : b = 1
  · rw [if_pos d1]; exact k91 _ (ck_s h)
  rw [if_neg d1]
  by_cases d2 : b = 2
  · rw [if_pos d2]; exact k91 _ (ck_s10 h)
  rw [if_neg d2]
  by_cases d3 : b = 3
  · rw [if_pos d3]; exact k91 _ (ck_s10 h)
  · rw [if_neg d3]; exact k91 _ (ck_s h)
theorem ck_ghand {A M : SR} {a b v : Int32} (h : CK A M) : CK A (f_X4_setGroupByHand M a b v) := by
  unfold f_X4_setGroupByHand
  dsimp only [sLet]
  by_cases c : b = 1
  · rw [if_pos c]; exact ck_s10 h
  · rw [if_neg c]; exact ck_fd (ck_s h)
theorem ck_fade {A M : SR} {a t : Int32} (h : CK A M) : CK A (f_X4_beginFade M a t) := by
  unfold f_X4_beginFade
  dsimp only [sLet]
  by_cases c : t ≤ 0
  · rw [if_pos c]; exact ck_s10 (ck_r (ck_fd h))
  · rw [if_neg c]; exact ck_fd h
theorem ck_sig {A : SR} : ∀ (n : Nat) (x : Int32) (M : SR), CK A M → CK A (f_X4_takeSignals_p17 n x M) := by
  intro n
  induction n with
  | zero => intro x M h; exact h
  | succ n ih =>
    intro x M h
    rw [f_X4_takeSignals_p17]
    by_cases c : (4 : Int32) ≤ x
    · rw [if_pos c]; exact h
    · rw [if_neg c]
      by_cases d : M 5 x.toNatClampNeg < 0
      · rw [if_pos d]; exact ih _ _ h
      · rw [if_neg d, sLet_eq]; exact ih _ _ (ck_s h)
theorem ck_clip {A : SR} : ∀ (n : Nat) (x : Int32) (M : SR), CK A M → CK A (f_X4_clip_p2 n x M) := by
  intro n
  induction n with
  | zero => intro x M h; exact h
  | succ n ih =>
    intro x M h
    rw [f_X4_clip_p2]
    by_cases c : (4 : Int32) ≤ x
    · rw [if_pos c]; exact h
    · rw [if_neg c]
      by_cases d : M 7 x.toNatClampNeg ≤ 9999
      · rw [if_pos d]; exact ih _ _ h
      · rw [if_neg d, sLet_eq, sLet_eq]; exact ih _ _ (ck_s10 (ck_s h))
theorem ck_61 {A : SR} (kb : Int32 → SR → SR) (hk : ∀ (x : Int32) (M : SR), CK A M → CK A (kb x M)) : ∀ (n : Nat) (x1 x2 x3 : Int32) (M : SR), CK A M → CK A (f_X4_mix_p61 kb n x1 x2 x3 M) := by
  intro n
  induction n with
  | zero => intro x1 x2 x3 M h; exact h
  | succ n ih =>
    intro x1 x2 x3 M h
    rw [f_X4_mix_p61]
    by_cases c : (4 : Int32) ≤ x3
    · rw [if_pos c]; exact hk _ _ h
    · rw [if_neg c, sLet_eq]; exact ih _ _ _ _ (ck_s h)
theorem ck_27 {A : SR} : ∀ (n : Nat) (x : Int32) (M : SR), CK A M → CK A (f_X4_mix_p27 n x M) := by
  intro n
  induction n with
  | zero => intro x M h; exact h
  | succ n ih =>
    intro x M h
    rw [f_X4_mix_p27]
    by_cases c : (12 : Int32) ≤ x
    · rw [if_pos c, sLet_eq, sLet_eq]
      have g : CK A (f_X4_clip M) := by
        rw [f_X4_clip]
        exact ck_clip 5 0 M h
      exact ck_s10 g
    · rw [if_neg c, sLet_eq]
      exact ck_61 (f_X4_mix_p27 n) ih 5 _ _ _ _ (ck_s10 h)
theorem ck_mix2 {A : SR} : ∀ (n : Nat) (x : Int32) (M : SR), CK A M → CK A (f_X4_mix_p2 n x M) := by
  intro n
  induction n with
  | zero => intro x M h; exact h
  | succ n ih =>
    intro x M h
    rw [f_X4_mix_p2]
    by_cases c : (4 : Int32) ≤ x
    · rw [if_pos c, sLet_eq]; exact ck_27 _ _ _ (ck_s10 h)
    · rw [if_neg c, sLet_eq]; exact ih _ _ (ck_s h)
theorem ck_117 {A M : SR} (h : CK A M) : CK A (f_X4_stepFade_p117 M) := by
  unfold f_X4_stepFade_p117
  dsimp only [sLet]
  by_cases c : M 11 1 < M 11 2
  · rw [if_pos c]; exact h
  · rw [if_neg c]; exact ck_fd h
theorem ck_26 {A : SR} : ∀ (n : Nat) (x y : Int32) (M : SR), CK A M → CK A (f_X4_stepFade_p26 n x y M) := by
  intro n
  induction n with
  | zero => intro x y M h; exact h
  | succ n ih =>
    intro x y M h
    rw [f_X4_stepFade_p26]
    by_cases c : (16 : Int32) ≤ y
    · rw [if_pos c]
      by_cases d : f_X0_isInTheMiddle M = 0
      · rw [if_pos d]; exact ck_117 h
      · rw [if_neg d, sLet_eq]; exact ck_117 (ck_s10 h)
    · rw [if_neg c]
      by_cases d : f_X0_isTouched M y = 0
      · rw [if_pos d, sLet_eq]; exact ih _ _ _ (ck_s h)
      · rw [if_neg d]; exact ih _ _ _ h
theorem ck_step {A M : SR} (h : CK A M) : CK A (f_X4_stepFade M) := by
  rw [f_X4_stepFade, sLet_eq]
  exact ck_26 _ _ _ _ (ck_s h)
/-- a tick: all but the count of ticks stays -/
def CT (A M : SR) (v : Int32) : Prop := M 3 = A 3 ∧ M 4 = A 4 ∧ M 5 = A 5 ∧ M 10 7 = A 10 7 ∧ M 10 3 = v
theorem ct_go {A : SR} {P : Nat} (hP : P ≤ 100) : ∀ (n j : Nat) (M : SR), j ≤ P → P < j + n → CT A M (A 10 3 + nI j) → CT A (f_X4_goOn_p2 (nI P) n (nI j) M) (A 10 3 + nI P) := by
  intro n
  induction n with
  | zero => intro j M h1 h2; omega
  | succ n ih =>
    intro j M h1 h2 h
    rw [f_X4_goOn_p2]
    by_cases c : nI P ≤ nI j
    · rw [nI_leI (by omega) (by omega)] at c
      rw [if_pos (nI_le c (by omega)), show P = j by omega]
      exact h
    · have hj : j < P := lp_ge (x := nI j) rfl (y := nI P) rfl (by omega) (by omega) c
      have key : ∀ M1 : SR, CK M M1 → CT A (f_X4_goOn_p21 (nI P) (f_X4_goOn_p2 (nI P) n) (nI j) M1) (A 10 3 + nI P) := fun M1 h1 => by
        rw [f_X4_goOn_p21, sLet_eq, sLet_eq, sLet_eq, nI_1]
        have g1 : CK M (f_X4_takeSignals M1) := by
          rw [f_X4_takeSignals, sLet_eq]
          exact ck_sig _ _ _ (ck_r h1)
        have g2 : CK M (f_X4_mix (f_X4_takeSignals M1)) := by
          rw [f_X4_mix]
          exact ck_mix2 _ _ _ g1
        generalize f_X4_mix (f_X4_takeSignals M1) = M2 at g2 ⊢
        obtain ⟨a3, a4, a5, a7, a1⟩ := g2
        obtain ⟨b3, b4, b5, b7, b1⟩ := h
        refine ih (j + 1) _ (by omega) (by omega) ⟨?_, ?_, ?_, ?_, ?_⟩
        · rw [sU_row (by decide), a3, b3]
        · rw [sU_row (by decide), a4, b4]
        · rw [sU_row (by decide), a5, b5]
        · rw [sU_ne (by decide), a7, b7]
        · rw [sU_eq, a1, b1, Int32.add_assoc, nI_1]
      rw [if_neg c]
      by_cases d : f_X0_isGoingOn M = 0
      · rw [if_pos d]; exact key M ck_rf
      · rw [if_neg d, sLet_eq]; exact key _ (ck_step ck_rf)
theorem ct_run {A : SR} {P : Nat} (hP : P ≤ 100) : CT A (f_X4_goOn A (nI P)) (A 10 3 + nI P) := by
  rw [f_X4_goOn, nI_clamp (by omega)]
  have := ct_go (A := A) hP (P + 1) 0 A (by omega) (by omega) ⟨rfl, rfl, rfl, rfl, by rw [nI_0, Int32.add_zero]⟩
  rw [nI_0] at this
  exact this
/-! what the reference's methods keep -/
theorem lt12 {j : Nat} (hj : j ≤ 12) (c : ¬ (12 : Int32) ≤ nI j) : j < 12 := lp_ge (x := nI j) rfl (show (12 : Int32) = nI 12 from rfl) (by omega) (by omega) c
theorem lt16 {j : Nat} (hj : j ≤ 16) (c : ¬ (16 : Int32) ≤ nI j) : j < 16 := lp_ge (x := nI j) rfl (show (16 : Int32) = nI 16 from rfl) (by omega) (by omega) c
theorem lt4 {j : Nat} (hj : j ≤ 4) (c : ¬ (4 : Int32) ≤ nI j) : j < 4 := lp_ge (x := nI j) rfl (show (4 : Int32) = nI 4 from rfl) (by omega) (by omega) c
theorem at_lt : ∀ k : Nat, k < 16 → (f_X6_at (nI k)).toNatClampNeg < 76 := by decide +kernel
theorem mu_lt : ∀ k : Nat, k < 12 → ((5 * nI k) + 2).toNatClampNeg < 60 := by decide +kernel
theorem tk_mute {A : SR} {v : Int32} : ∀ (n j : Nat) (R : SR), j ≤ 12 → TK A R → TK A (f_X6_mute_p2 v n (nI j) R) := by
  intro n
  induction n with
  | zero => intro j R hj h; exact h
  | succ n ih =>
    intro j R hj h
    rw [f_X6_mute_p2]
    by_cases c : (12 : Int32) ≤ nI j
    · rw [if_pos c]; exact h
    · have hl := mu_lt j (lt12 hj c)
      rw [if_neg c]
      by_cases d : f_X6_has (R 0 179) (nI j) = 0
      · rw [if_pos d, sLet_eq, nI_1]; exact ih _ _ (lt12 hj c) (tk_s h (by omega))
      · rw [if_neg d, sLet_eq, nI_1]; exact ih _ _ (lt12 hj c) (tk_s h (by omega))
theorem tk_mute' {A R : SR} {v : Int32} (h : TK A R) : TK A (f_X6_mute R v) := by
  rw [f_X6_mute]
  have := tk_mute (v := v) 13 0 R (by omega) h
  rw [nI_0] at this
  exact this
theorem tk_125 {A R : SR} {a b : Int32} (h : TK A R) : TK A (f_X6_fade_p125 a b R) := by
  unfold f_X6_fade_p125
  dsimp only [sLet]
  by_cases c : a = b
  · rw [if_pos c]; exact tk_s h (by omega)
  · rw [if_neg c]; exact tk_s h (by omega)
theorem tk_113 {A R : SR} {a b : Int32} (h : TK A R) : TK A (f_X6_fade_p113 a b R) := by
  rw [f_X6_fade_p113, sLet_eq]
  exact tk_125 (tk_mute' h)
theorem tk_32 {A : SR} {a b : Int32} : ∀ (n j : Nat) (R : SR), j ≤ 16 → TK A R → TK A (f_X6_fade_p32 n a b (nI j) R) := by
  intro n
  induction n with
  | zero => intro j R hj h; exact h
  | succ n ih =>
    intro j R hj h
    rw [f_X6_fade_p32]
    by_cases c : (16 : Int32) ≤ nI j
    · rw [if_pos c]
      by_cases d : 2 * a = b
      · rw [if_pos d]; exact tk_113 h
      · rw [if_neg d]
        by_cases d2 : 2 * a = b + 1
        · rw [if_pos d2]; exact tk_113 h
        · rw [if_neg d2]; exact tk_125 h
    · have hl := at_lt j (lt16 hj c)
      rw [if_neg c]
      by_cases d : f_X6_isTouched R (nI j) = 0
      · rw [if_pos d, sLet_eq, nI_1]; exact ih _ _ (lt16 hj c) (tk_s h (by omega))
      · rw [if_neg d, nI_1]; exact ih _ _ (lt16 hj c) h
theorem tk_fade {A R : SR} (h : TK A R) : TK A (f_X6_fade R) := by
  rw [f_X6_fade, sLet_eq]
  have := tk_32 (a := (sU R 0 144 (R 0 144 + 1)) 0 144) (b := (sU R 0 144 (R 0 144 + 1)) 0 145) 17 0 _ (by omega) (tk_s (k := 144) (v := R 0 144 + 1) h (by omega))
  rw [nI_0] at this
  exact this
/-- a tick: all but the count of ticks stays -/
def TT (A R : SR) (v : Int32) : Prop := (∀ r : Nat, r ≠ 0 → R r = A r) ∧ (∀ k : Nat, 80 ≤ k → k < 136 → R 0 k = A 0 k) ∧ (∀ j : Nat, 181 ≤ j → R 0 j = A 0 j) ∧ R 0 140 = v
theorem tt_tk {A R S : SR} {v : Int32} (h : TT A R v) (g : TK R S) : TT A S v := ⟨fun r hr => (g.1 r hr).trans (h.1 r hr), fun k h1 h2 => (g.2.1 k h1 h2).trans (h.2.1 k h1 h2), fun j hj => (g.2.2.1 j hj).trans (h.2.2.1 j hj), g.2.2.2.trans h.2.2.2⟩
theorem tt_188 {A : SR} {v : Int32} : ∀ (n j : Nat) (x : Int32) (R : SR), j ≤ 12 → 12 < j + n → TT A R v → TT A (f_X6_tick_p188 n x (nI j) R) (v + 1) := by
  intro n
  induction n with
  | zero => intro j x R h1 h2; omega
  | succ n ih =>
    intro j x R hj hn h
    rw [f_X6_tick_p188]
    by_cases c : (12 : Int32) ≤ nI j
    · rw [if_pos c, sLet_eq, sLet_eq, sLet_eq]
      have g := tt_tk h (tk_s (tk_s (k := 141) (v := x) tk_rf (by omega)) (k := 142) (v := f_X6_more ((sU R 0 141 x) 0 142) x) (by omega))
      generalize sU (sU R 0 141 x) 0 142 (f_X6_more ((sU R 0 141 x) 0 142) x) = S at g ⊢
      exact ⟨fun r hr => by rw [sU_row hr]; exact g.1 r hr, fun k k1 k2 => by rw [sU_ne (by omega)]; exact g.2.1 k k1 k2, fun k hk => by rw [sU_ne (by omega)]; exact g.2.2.1 k hk, by rw [sU_eq, g.2.2.2]⟩
    · rw [if_neg c, nI_1]; exact ih _ _ _ (lt12 hj c) (by have := lt12 hj c; omega) h
theorem tt_97 {A : SR} {v : Int32} (kb : Int32 → SR → SR) {f : Nat} (hf : f < 4) (hk : ∀ (R : SR), TT A R v → TT A (kb (nI (f + 1)) R) (v + 1)) : ∀ (n j : Nat) (x : Int32) (R : SR), j ≤ 12 → 12 < j + n → TT A R v → TT A (f_X6_tick_p97 kb n (nI f) x (nI j) R) (v + 1) := by
  intro n
  induction n with
  | zero => intro j x R h1 h2; omega
  | succ n ih =>
    intro j x R hj hn h
    rw [f_X6_tick_p97]
    by_cases c : (12 : Int32) ≤ nI j
    · rw [if_pos c, show (136 : Int32) = nI 136 from rfl, cl_add 136 f (by omega), nI_1]
      have g : ∀ y z : Int32, TT A (sU (sU R 0 (136 + f) y) 0 143 z) v := fun y z => tt_tk h (tk_s (tk_s tk_rf (by omega)) (by omega))
      by_cases d : x ≤ 9999
      · rw [if_pos d, sLet_eq, if_pos d, sLet_eq]; exact hk _ (g _ _)
      · rw [if_neg d, sLet_eq, if_neg d, sLet_eq]; exact hk _ (g _ _)
    · rw [if_neg c, nI_1]; exact ih _ _ _ (lt12 hj c) (by have := lt12 hj c; omega) h
theorem tt_88 {A : SR} {v : Int32} : ∀ (n j : Nat) (R : SR), j ≤ 4 → 4 < j + n → TT A R v → TT A (f_X6_tick_p88 n (nI j) R) (v + 1) := by
  intro n
  induction n with
  | zero => intro j R h1 h2; omega
  | succ n ih =>
    intro j R hj hn h
    rw [f_X6_tick_p88]
    by_cases c : (4 : Int32) ≤ nI j
    · rw [if_pos c]
      have := tt_188 13 0 0 R (by omega) (by omega) h
      rw [nI_0] at this
      exact this
    · have hj4 := lt4 hj c
      rw [if_neg c]
      have := tt_97 (v := v) (f_X6_tick_p88 n) hj4 (fun R h => ih _ _ hj4 (by omega) h) 13 0 0 R (by omega) (by omega) h
      rw [nI_0] at this
      exact this
theorem tt_55 {A : SR} {v : Int32} (kb : Int32 → SR → SR) {j : Nat} (hj : j < 12) (hk : ∀ (R : SR), TT A R v → TT A (kb (nI (j + 1)) R) (v + 1)) (s0 s1 : Int32) (R : SR) (h : TT A R v) : TT A (f_X6_tick_p55 kb (nI j) s0 s1 R) (v + 1) := by
  unfold f_X6_tick_p55
  rw [show (60 : Int32) = nI 60 from rfl, cl_add 60 j (by omega), nI_1]
  by_cases d : s1 + s0 ≤ 9999
  · rw [if_pos d, sLet_eq]; exact hk _ (tt_tk h (tk_s tk_rf (by omega)))
  · rw [if_neg d, sLet_eq]; exact hk _ (tt_tk h (tk_s tk_rf (by omega)))
theorem tt_17 {A : SR} {v : Int32} : ∀ (n j : Nat) (R : SR), j ≤ 12 → 12 < j + n → TT A R v → TT A (f_X6_tick_p17 n (nI j) R) (v + 1) := by
  intro n
  induction n with
  | zero => intro j R h1 h2; omega
  | succ n ih =>
    intro j R hj hn h
    rw [f_X6_tick_p17]
    by_cases c : (12 : Int32) ≤ nI j
    · rw [if_pos c]
      have := tt_88 5 0 R (by omega) (by omega) h
      rw [nI_0] at this
      exact this
    · have hj4 := lt12 hj c
      rw [if_neg c]
      by_cases d : f_X6_backInto R (nI j) = -99
      · rw [if_pos d]; exact tt_55 (f_X6_tick_p17 n) hj4 (fun R h => ih _ _ hj4 (by omega) h) _ _ _ h
      · rw [if_neg d]; exact tt_55 (f_X6_tick_p17 n) hj4 (fun R h => ih _ _ hj4 (by omega) h) _ _ _ h
theorem tt_tick {A R : SR} {v : Int32} (h : TT A R v) : TT A (f_X6_tick R) (v + 1) := by
  rw [f_X6_tick, f_X6_tick_p15]
  have key : ∀ S : SR, TT A S v → TT A (f_X6_tick_p17 13 0 S) (v + 1) := fun S hS => by
    have := tt_17 13 0 S (by omega) (by omega) hS
    rw [nI_0] at this
    exact this
  by_cases c : R 0 144 < 0
  · rw [if_pos c]; exact key _ h
  · rw [if_neg c, sLet_eq, f_X6_tick_p15]; exact key _ (tt_tk h (tk_fade tk_rf))
theorem tt_run {A : SR} {P : Nat} (hP : P ≤ 100) : ∀ (n j : Nat) (R : SR), j ≤ P → P < j + n → TT A R (A 0 140 + nI j) → ∃ S : SR, (f_X6_run_p42 (nI P) n (nI j) R).2 = S ∧ TT A S (A 0 140 + nI P) := by
  intro n
  induction n with
  | zero => intro j R h1 h2; omega
  | succ n ih =>
    intro j R h1 h2 h
    rw [f_X6_run_p42]
    by_cases c : nI P ≤ nI j
    · have c' := c
      rw [nI_leI (by omega) (by omega)] at c'
      rw [if_pos c, show P = j by omega]
      exact ⟨R, rfl, h⟩
    · have hj : j < P := lp_ge (x := nI j) rfl (y := nI P) rfl (by omega) (by omega) c
      rw [if_neg c, sLet_eq, nI_1]
      have g := tt_tick h
      rw [Int32.add_assoc, nI_1] at g
      exact ih (j + 1) _ (by omega) (by omega) g
/-- outputIn: row 0 comes back -/
theorem rel_p2 : ∀ (n k : Nat) (R : SR), k ≤ 289 → 289 < k + n → (∀ r : Nat, r ≠ 0 → (f_X6_release_p2 n (nI k) R) r = R r) ∧ ∀ j : Nat, (f_X6_release_p2 n (nI k) R) 0 j = if k ≤ j ∧ j < 289 then R 1 j else R 0 j := by
  intro n
  induction n with
  | zero => intro k R h1 h2; omega
  | succ n ih =>
    intro k R h1 h2
    rw [f_X6_release_p2]
    by_cases c : (289 : Int32) ≤ nI k
    · have : ¬ k < 289 := fun q => by
        rw [show (289 : Int32) = nI 289 from rfl, nI_leI (by omega) (by omega)] at c
        omega
      rw [if_pos c]
      exact ⟨fun _ _ => rfl, fun j => by rw [if_neg (by omega)]⟩
    · have hk : k < 289 := lp_ge (x := nI k) rfl (show (289 : Int32) = nI 289 from rfl) (by omega) (by omega) c
      rw [if_neg c, sLet_eq, nI_1, nI_clamp (by omega)]
      obtain ⟨i2, i3⟩ := ih (k + 1) (sU R 0 k (R 1 k)) (by omega) (by omega)
      refine ⟨fun r hr => by rw [i2 r hr, sU_row hr], fun j => ?_⟩
      rw [i3 j, sU_row (show 1 ≠ 0 by decide)]
      by_cases e : j = k
      · subst e
        rw [if_neg (by omega), sU_eq, if_pos (by omega)]
      · rw [sU_ne e]
        by_cases q : k + 1 ≤ j ∧ j < 289
        · rw [if_pos q, if_pos (by omega)]
        · rw [if_neg q, if_neg (by omega)]
theorem rel_all (R : SR) : (∀ r : Nat, r ≠ 0 → (f_X6_release R) r = R r) ∧ ∀ j : Nat, j < 289 → (f_X6_release R) 0 j = R 1 j := by
  obtain ⟨i2, i3⟩ := rel_p2 290 0 R (by omega) (by omega)
  rw [nI_0] at i2 i3
  rw [f_X6_release]
  exact ⟨i2, fun j hj => by rw [i3 j, if_pos (by omega)]⟩
theorem out_30 {A : SR} {f : Int32} {P : Nat} (hP : P ≤ 100) : ∀ (n j : Nat) (v : Int32) (R : SR), j ≤ P → P < j + n → TT A R v → (∀ r : Nat, r ≠ 0 → (f_X6_outputIn_p30 f (nI P) n (nI j) R).2 r = A r) ∧ ∀ k : Nat, k < 289 → (f_X6_outputIn_p30 f (nI P) n (nI j) R).2 0 k = A 1 k := by
  intro n
  induction n with
  | zero => intro j v R h1 h2; omega
  | succ n ih =>
    intro j v R h1 h2 h
    rw [f_X6_outputIn_p30]
    by_cases c : nI P ≤ nI j
    · rw [if_pos c, sLet_eq]
      obtain ⟨a1, a2⟩ := rel_all R
      dsimp only
      exact ⟨fun r hr => (a1 r hr).trans (h.1 r hr), fun k hk => (a2 k hk).trans (by rw [h.1 1 (by decide)])⟩
    · have hj : j < P := lp_ge (x := nI j) rfl (y := nI P) rfl (by omega) (by omega) c
      rw [if_neg c, sLet_eq, nI_1]
      exact ih (j + 1) _ _ (by omega) (by omega) (tt_tick h)
theorem tk_20 {A : SR} {a t : Int32} : ∀ (n j : Nat) (R : SR), j ≤ 16 → TK A R → TK A (f_X6_begin_p20 a t n (nI j) R) := by
  intro n
  induction n with
  | zero => intro j R hj h; exact h
  | succ n ih =>
    intro j R hj h
    rw [f_X6_begin_p20]
    by_cases c : (16 : Int32) ≤ nI j
    · rw [if_pos c, sLet_eq, sLet_eq, sLet_eq]
      exact tk_s (tk_s (tk_s h (by omega)) (by omega)) (by omega)
    · have hl := lt16 hj c
      rw [if_neg c, sLet_eq, sLet_eq, nI_1, show (146 : Int32) = nI 146 from rfl, show (162 : Int32) = nI 162 from rfl, cl_add 146 j (by omega), cl_add 162 j (by omega)]
      exact ih _ _ hl (tk_s (tk_s h (by omega)) (by omega))
theorem tk_begin {A R : SR} {a t : Int32} (h : TK A R) : TK A (f_X6_begin R a t) := by
  rw [f_X6_begin, sLet_eq, sLet_eq]
  have := tk_20 (a := a) (t := t) 17 0 _ (by omega) (tk_s (k := 145) (v := t) (tk_s (k := 144) (v := 0) h (by omega)) (by omega))
  rw [nI_0] at this
  exact this
theorem tk_29 {A : SR} {a : Int32} : ∀ (n j : Nat) (R : SR), j ≤ 16 → TK A R → TK A (f_X6_jump_p29 a n (nI j) R) := by
  intro n
  induction n with
  | zero => intro j R hj h; exact h
  | succ n ih =>
    intro j R hj h
    rw [f_X6_jump_p29]
    by_cases c : (16 : Int32) ≤ nI j
    · rw [if_pos c, sLet_eq]
      exact tk_mute' h
    · have hl := at_lt j (lt16 hj c)
      rw [if_neg c, sLet_eq, nI_1]
      exact ih _ _ (lt16 hj c) (tk_s h (by omega))
theorem tk_jump {A R : SR} {a : Int32} (h : TK A R) : TK A (f_X6_jump R a) := by
  rw [f_X6_jump, sLet_eq, sLet_eq, sLet_eq]
  have := tk_29 (a := a) 17 0 _ (by omega) (tk_s (k := 180) (v := 0) (tk_s (k := 179) (v := 0) (tk_s (k := 144) (v := -1) h (by omega)) (by omega)) (by omega))
  rw [nI_0] at this
  exact this
theorem tk_55 {A : SR} {a t : Int32} : ∀ (n : Nat) (x y z : Int32) (R : SR), TK A R → TK A (f_X6_recall_p55 a t n x y z R).2 := by
  intro n
  induction n with
  | zero => intro x y z R h; exact h
  | succ n ih =>
    intro x y z R h
    rw [f_X6_recall_p55]
    by_cases c : (16 : Int32) ≤ z
    · rw [if_pos c]
      by_cases d : t = 0
      · rw [if_pos d, sLet_eq]; exact tk_jump h
      · rw [if_neg d, sLet_eq]; exact tk_begin h
    · rw [if_neg c]
      by_cases d : R 0 (f_X6_at z).toNatClampNeg = R 0 (x + 1 + z).toNatClampNeg
      · rw [if_pos d]; exact ih _ _ _ _ h
      · rw [if_neg d]; exact ih _ _ _ _ h
theorem hd_lt : ∀ a : Nat, a < 12 → ∀ b : Nat, b < 5 → ((5 * nI a) + nI b).toNatClampNeg < 60 := by decide +kernel
theorem tk_hand {A R : SR} {a b : Nat} {v : Int32} (ha : a < 12) (hb : b < 5) (h : TK A R) : TK A (f_X6_setByHand R (nI a) (nI b) v) := by
  have hl := hd_lt a ha b hb
  rw [f_X6_setByHand, sLet_eq]
  have g := tk_s (k := ((5 * nI a) + nI b).toNatClampNeg) (v := v) h (by omega)
  generalize sU R 0 ((5 * nI a) + nI b).toNatClampNeg v = S at g ⊢
  by_cases c : S 0 144 < 0
  · rw [if_pos c, sLet_eq]; exact tk_s g (by omega)
  · rw [if_neg c]
    by_cases d : nI b = 1
    · rw [if_pos d, sLet_eq]; exact tk_s g (by omega)
    · rw [if_neg d]
      by_cases d2 : nI b = 2
      · rw [if_pos d2, sLet_eq]; exact tk_s g (by omega)
      · rw [if_neg d2, sLet_eq]; exact tk_s g (by omega)
/-- a change of now, behind keep and act, that neither side shows here -/
theorem rel3_tk {G : GR} {R : SR} (h : REL3 G R) {M : SR} {S : SR} (hM : CK (G 0) M) (hS : TK (f_X6_act (sU R 6 0 0)) S) (hs : RS S) : REL3 (va_up (f_X1_keep G) 0 M) S := by
  have g := rel3_act (rel3_ro h)
  have k := (keep_now h).1
  refine rel3_now g (cur_ck (M := f_X1_keep G 0) g.1 (by rw [k]; exact hM) hS hs) (hS.1 2 (by decide)) (hS.1 3 (by decide)) (by rw [hS.1 6 (by decide)]) (by rw [hS.1 6 (by decide)])
theorem r_setChannel {G : GR} {R : SR} (h : REL3 G R) (v1 v2 v3 : Int32) (hs : RS (f_X6_setChannel R v1 v2 v3).2) : REL3 (f_X5_setChannel G v1 v2 v3).2 (f_X6_setChannel R v1 v2 v3).2 := by
  revert hs
  dsimp only [f_X5_setChannel, f_X6_setChannel, sLet]
  rw [e12, part_eq]
  by_cases c1 : f_X6_isChannel v1 = 0
  · rw [if_pos c1, if_pos c1]; intro _; exact rel3_ro h
  · rw [if_neg c1, if_neg c1]
    by_cases c2 : f_X5_isBelow v2 5 = 0
    · rw [if_pos c2, if_pos c2, if_pos rfl]; intro _; exact rel3_ro h
    · rw [if_neg c2, if_neg c2]
      by_cases c3 : f_X5_isWithin v3 0 (chI v2.toNatClampNeg) = 0
      · rw [if_pos c3, if_pos c3]; intro _; exact rel3_ro h
      · rw [if_neg c3, if_neg c3]
        obtain ⟨a, ha, rfl⟩ := vp_in_of (ch_vp c1) (by decide)
        obtain ⟨b, hb, rfl⟩ := vp_in_of (below_vp (n := 5) c2) (by decide)
        dsimp only
        intro hs
        exact rel3_tk h (by rw [(keep_now h).1]; exact ck_hand ck_rf) (tk_hand ha hb tk_rf) hs
theorem r_setGroup {G : GR} {R : SR} (h : REL3 G R) (v1 v2 v3 : Int32) (hs : RS (f_X6_setGroup R v1 v2 v3).2) : REL3 (f_X5_setGroup G v1 v2 v3).2 (f_X6_setGroup R v1 v2 v3).2 := by
  revert hs
  dsimp only [f_X5_setGroup, f_X6_setGroup, sLet]
  rw [e4, bi v2 2 1 (by decide)]
  by_cases c1 : f_X6_isFour v1 = 0
  · rw [if_pos c1, if_pos c1]; intro _; exact rel3_ro h
  · rw [if_neg c1, if_neg c1]
    by_cases c2 : f_X6_in v2 0 1 = 0
    · rw [if_pos c2, if_pos c2]; intro _; exact rel3_ro h
    · rw [if_neg c2, if_neg c2]
      obtain ⟨a, ha, rfl⟩ := vp_in_of (four_vp c1) (by decide)
      obtain ⟨b, hb, rfl⟩ := vp_in_of (in_vp (n := 1) c2 (by decide)) (by decide)
      have hk : ∀ w : Int32, CK (G 0) (f_X4_setGroupByHand (f_X1_keep G 0) (nI a) w v3) := fun w => by rw [(keep_now h).1]; exact ck_ghand ck_rf
      have t1 : ∀ x y : Int32, TK (f_X6_act (sU R 6 0 0)) (sU (sU (f_X6_act (sU R 6 0 0)) 0 (72 + nI a).toNatClampNeg x) 0 180 y) := fun x y => by
        rw [show (72 : Int32) = nI 72 from rfl, cl_add 72 a (by omega)]
        exact tk_s (tk_s tk_rf (by omega)) (by omega)
      have t2 : ∀ x y : Int32, TK (f_X6_act (sU R 6 0 0)) (sU (sU (f_X6_act (sU R 6 0 0)) 0 (76 + nI a).toNatClampNeg x) 0 180 y) := fun x y => by
        rw [show (76 : Int32) = nI 76 from rfl, cl_add 76 a (by omega)]
        exact tk_s (tk_s tk_rf (by omega)) (by omega)
      rcases (show b = 0 ∨ b = 1 by omega) with rfl | rfl
      · rw [if_pos (show nI 0 = 0 from rfl), show grI (nI 0).toNatClampNeg = 100 from rfl, ew]
        by_cases c3 : f_X6_in v3 0 100 = 0
        · rw [if_pos c3, if_pos c3]; intro _; exact rel3_ro h
        · rw [if_neg c3, if_neg c3, if_pos (show nI 0 = 0 from rfl), if_pos (show nI 0 = 0 from rfl)]
          dsimp only
          split
          · intro hs; exact rel3_tk h (hk _) (t1 _ _) hs
          · intro hs; exact rel3_tk h (hk _) (t1 _ _) hs
      · rw [if_neg (show ¬ nI 1 = 0 by decide), show grI (nI 1).toNatClampNeg = 1 from rfl, ew]
        by_cases c3 : f_X6_in v3 0 1 = 0
        · rw [if_pos c3, if_pos c3]; intro _; exact rel3_ro h
        · rw [if_neg c3, if_neg c3, if_neg (show ¬ nI 1 = 0 by decide), if_neg (show ¬ nI 1 = 0 by decide)]
          dsimp only
          split
          · intro hs; exact rel3_tk h (hk _) (t2 _ _) hs
          · intro hs; exact rel3_tk h (hk _) (t2 _ _) hs
theorem six : ∀ a : Nat, a < 4 → ∀ b : Nat, b < 12 → (f_X5_sendIndex (nI a) (nI b)).toNatClampNeg = 12 * a + b ∧ ((88 + (12 * nI a)) + nI b).toNatClampNeg = 88 + (12 * a + b) := by decide +kernel
theorem cur_send {M : SR} {R : SR} (h : CUR M (R 0)) {k : Nat} (hk : k < 48) (v : Int32) : CUR (sU M 3 k v) ((sU R 0 (88 + k) v) 0) := by
  obtain ⟨h1, h2, h3, ⟨m, m1, m2, m3⟩, h5, h6, h7⟩ := h
  refine ⟨fun q hq => ?_, fun f hf => ?_, fun f hf => ?_, ⟨m, m1, by rw [sU_row (by decide)]; exact m2, fun q hq => ?_⟩, ?_, ?_, fun f hf => ?_⟩
  · by_cases e : q = k
    · subst e; rw [sU_eq, sU_eq]
    · rw [sU_ne (by omega), sU_ne e]; exact h1 q hq
  · rw [sU_ne (by omega), sU_row (by decide)]; exact h2 f hf
  · rw [sU_ne (by omega), sU_row (by decide)]; exact h3 f hf
  · rw [sU_ne (by omega)]; exact m3 q hq
  · rw [sU_ne (by omega), sU_row (by decide)]; exact h5
  · rw [sU_ne (by omega), sU_ne (by omega)]; exact h6
  · rw [sU_row (by decide)]; exact h7 f hf
theorem r_setSend {G : GR} {R : SR} (h : REL3 G R) (v1 v2 v3 : Int32) : (f_X5_setSend G v1 v2 v3).1 = (f_X6_setSend R v1 v2 v3).1 ∧ REL3 (f_X5_setSend G v1 v2 v3).2 (f_X6_setSend R v1 v2 v3).2 := by
  dsimp only [f_X5_setSend, f_X6_setSend, sLet]
  rw [e4, e12, ew]
  by_cases c1 : f_X6_isFour v1 = 0
  · rw [if_pos c1, if_pos c1]; exact ⟨rfl, rel3_ro h⟩
  · rw [if_neg c1, if_neg c1]
    by_cases c2 : f_X6_isChannel v2 = 0
    · rw [if_pos c2, if_pos c2]; exact ⟨rfl, rel3_ro h⟩
    · rw [if_neg c2, if_neg c2]
      by_cases c3 : f_X6_in v3 0 100 = 0
      · rw [if_pos c3, if_pos c3]; exact ⟨rfl, rel3_ro h⟩
      · rw [if_neg c3, if_neg c3]
        obtain ⟨a, ha, rfl⟩ := vp_in_of (four_vp c1) (by decide)
        obtain ⟨b, hb, rfl⟩ := vp_in_of (ch_vp c2) (by decide)
        obtain ⟨x1, x2⟩ := six a ha b hb
        have g := rel3_act (rel3_ro h)
        dsimp only
        rw [f_X6_sendOf, x1, x2]
        refine ⟨?_, rel3_now g (cur_send g.1 (by omega) v3) (sU_row (by decide)) (sU_row (by decide)) (by rw [sU_row (by decide)]) (by rw [sU_row (by decide)])⟩
        exact (g.1.1 (12 * a + b) (by omega)).symm
theorem fix80 : ∀ a : Nat, a < 4 → (80 + nI a).toNatClampNeg = 80 + a ∧ (84 + nI a).toNatClampNeg = 84 + a := by decide +kernel
theorem vp_and {x y : Int32} {n : Nat} (hn : n ≤ 4096) (h : vp_in x n) : vp_in (x &&& y) n := by
  obtain ⟨j, hj, e⟩ := vp_in_of h (by omega)
  have hx : x.toBitVec.toNat = j := by
    rw [e]
    show (Int32.ofNat j).toBitVec.toNat = j
    rw [Int32.toBitVec_ofNat']
    simp only [BitVec.toNat_ofNat]
    omega
  have hb : (x &&& y).toBitVec.toNat ≤ j := by
    rw [Int32.toBitVec_and, BitVec.toNat_and, hx]
    exact Nat.and_le_left
  have : x &&& y = nI (x &&& y).toBitVec.toNat := by
    apply Int32.toBitVec_inj.mp
    show _ = (Int32.ofNat _).toBitVec
    rw [Int32.toBitVec_ofNat']
    simp only [BitVec.ofNat_toNat, BitVec.setWidth_eq]
  rw [this]
  exact vp_in_nI (by omega) (by omega)
theorem vp_or {x y : Int32} (h : vp_in x 4096) (h2 : vp_in y 4096) : vp_in (x ||| y) 4096 := by
  obtain ⟨j, hj, e⟩ := vp_in_of h (by decide)
  obtain ⟨k, hk, e2⟩ := vp_in_of h2 (by decide)
  have : x ||| y = nI (j ||| k) := by
    rw [e, e2]
    apply Int32.toBitVec_inj.mp
    show (nI j ||| nI k).toBitVec = (Int32.ofNat (j ||| k)).toBitVec
    rw [Int32.toBitVec_or]
    show (Int32.ofNat j).toBitVec ||| (Int32.ofNat k).toBitVec = _
    rw [Int32.toBitVec_ofNat', Int32.toBitVec_ofNat', Int32.toBitVec_ofNat']
    exact (BitVec.ofNat_or ..).symm
  rw [this]
  exact vp_in_nI (Nat.or_lt_two_pow (n := 12) hj hk) (by decide)
theorem own_bit (x b : Int32) : (x &&& (b ^^^ (-1))) ||| b = x ||| b := by
  apply Int32.toBitVec_inj.mp
  rw [Int32.toBitVec_or, Int32.toBitVec_and, Int32.toBitVec_xor, Int32.toBitVec_or]
  apply BitVec.eq_of_getLsbD_eq
  intro i hi
  have e : ((-1 : Int32).toBitVec).getLsbD i = true := by
    rw [show (-1 : Int32).toBitVec = BitVec.allOnes 32 from by decide, BitVec.getLsbD_allOnes]
    exact decide_eq_true hi
  simp only [BitVec.getLsbD_or, BitVec.getLsbD_and, BitVec.getLsbD_xor, e]
  cases x.toBitVec.getLsbD i <;> cases b.toBitVec.getLsbD i <;> rfl
theorem own_eq (x : Int32) {c d : Nat} (hc : c < 12) (hd : d < 2) : f_X5_withBit x (nI c) (nI d) = (x &&& ((1 <<< (nI c &&& 31)) ^^^ (-1))) ||| (nI d <<< (nI c &&& 31)) := by
  unfold f_X5_withBit
  rcases (show d = 0 ∨ d = 1 by omega) with rfl | rfl
  · rw [if_neg (by decide), show nI 0 <<< (nI c &&& 31) = 0 from (by decide +kernel : ∀ c : Nat, c < 12 → nI 0 <<< (nI c &&& 31) = 0) c hc, Int32.or_zero]
  · rw [if_pos (by decide), show (nI 1 : Int32) = 1 from rfl, own_bit]
theorem own_vp {x : Int32} (hx : vp_in x 4096) {c d : Nat} (hc : c < 12) (hd : d < 2) : vp_in (f_X5_withBit x (nI c) (nI d)) 4096 := by
  unfold f_X5_withBit
  by_cases q : nI d = 1
  · rw [if_pos q]
    exact vp_or hx (vp_of_B ((by decide +kernel : ∀ c : Nat, c < 12 → vp_okB (1 <<< (nI c &&& 31)) 4096 = true) c hc))
  · rw [if_neg q]
    exact vp_and (by omega) hx
theorem cur_own {M : SR} {R : SR} (h : CUR M (R 0)) {k : Nat} (hk : k < 4) {v : Int32} (hv : vp_in v 4096) : CUR (sU M 4 k v) ((sU R 0 (80 + k) v) 0) := by
  obtain ⟨h1, h2, h3, ⟨m, m1, m2, m3⟩, h5, h6, h7⟩ := h
  refine ⟨fun q hq => ?_, fun f hf => ?_, fun f hf => ?_, ⟨m, m1, by rw [sU_row (by decide)]; exact m2, fun q hq => ?_⟩, ?_, ?_, fun f hf => ?_⟩
  · rw [sU_ne (by omega), sU_row (by decide)]; exact h1 q hq
  · by_cases e : f = k
    · subst e; rw [sU_eq, sU_eq]
    · rw [sU_ne (by omega), sU_ne e]; exact h2 f hf
  · rw [sU_ne (by omega), sU_row (by decide)]; exact h3 f hf
  · rw [sU_ne (by omega)]; exact m3 q hq
  · rw [sU_ne (by omega), sU_row (by decide)]; exact h5
  · rw [sU_ne (by omega), sU_ne (by omega)]; exact h6
  · by_cases e : f = k
    · subst e; rw [sU_eq]; exact hv
    · rw [sU_ne e]; exact h7 f hf
theorem r_setOwner {G : GR} {R : SR} (h : REL3 G R) (v1 v2 v3 : Int32) : (∃ x : Int32, vp_in x 4096 ∧ (f_X5_setOwner G v1 v2 v3).1 = f_J6_bitCount_0f7a4 x ∧ (f_X6_setOwner R v1 v2 v3).1 = f_X6_bits x ∨ (f_X5_setOwner G v1 v2 v3).1 = (f_X6_setOwner R v1 v2 v3).1) ∧ REL3 (f_X5_setOwner G v1 v2 v3).2 (f_X6_setOwner R v1 v2 v3).2 := by
  dsimp only [f_X5_setOwner, f_X6_setOwner, sLet]
  rw [e4, e12, ew]
  by_cases c1 : f_X6_isFour v1 = 0
  · rw [if_pos c1, if_pos c1]; exact ⟨⟨0, Or.inr rfl⟩, rel3_ro h⟩
  · rw [if_neg c1, if_neg c1]
    by_cases c2 : f_X6_isChannel v2 = 0
    · rw [if_pos c2, if_pos c2]; exact ⟨⟨0, Or.inr rfl⟩, rel3_ro h⟩
    · rw [if_neg c2, if_neg c2]
      by_cases c3 : f_X6_in v3 0 1 = 0
      · rw [if_pos c3, if_pos c3]; exact ⟨⟨0, Or.inr rfl⟩, rel3_ro h⟩
      · rw [if_neg c3, if_neg c3]
        obtain ⟨a, ha, rfl⟩ := vp_in_of (four_vp c1) (by decide)
        obtain ⟨b, hb, rfl⟩ := vp_in_of (ch_vp c2) (by decide)
        obtain ⟨d, hd, rfl⟩ := vp_in_of (in_vp (n := 1) c3 (by decide)) (by decide)
        have g := rel3_act (rel3_ro h)
        have x80 := (fix80 a ha).1
        dsimp only
        rw [x80, nI_clamp (show a < 2 ^ 31 by omega)]
        have e := g.1.2.1 a ha
        have hv := own_vp (g.1.2.2.2.2.2.2 a ha) hb hd
        rw [e, ← own_eq _ hb hd]
        refine ⟨⟨_, Or.inl ⟨hv, ?_, ?_⟩⟩, rel3_now g (cur_own g.1 ha hv) (sU_row (by decide)) (sU_row (by decide)) (by rw [sU_row (by decide)]) (by rw [sU_row (by decide)])⟩
        · rw [vu_eq, sU_eq]
        · rw [sU_eq]
theorem back_p {M : SR} {R : SR} (h : CUR M (R 0)) {p : Int32} : ∀ (n j : Nat), j ≤ 4 → f_X4_feedBackInto_p9 M p n (nI j) = f_X6_backInto_p2 R p n (nI j) := by
  intro n
  induction n with
  | zero => intro j hj; rfl
  | succ n ih =>
    intro j hj
    rw [f_X4_feedBackInto_p9, f_X6_backInto_p2]
    by_cases c : (4 : Int32) ≤ nI j
    · rw [if_pos c, if_pos c]
    · have hl := lt4 hj c
      rw [if_neg c, if_neg c, (fix80 j hl).2, nI_clamp (by omega), h.2.2.1 j hl, nI_1, ih _ hl]
theorem back_eq {M : SR} {R : SR} (h : CUR M (R 0)) {p : Int32} (hp : 0 ≤ p) : f_X4_feedBackInto M p = f_X6_backInto R p := by
  rw [f_X4_feedBackInto, if_pos hp, f_X6_backInto]
  have := back_p h (p := p) 5 0 (by omega)
  rw [nI_0] at this
  exact this
theorem cur_ret {M : SR} {R : SR} (h : CUR M (R 0)) {k : Nat} (hk : k < 4) {v : Int32} : CUR (sU M 5 k v) ((sU R 0 (84 + k) v) 0) := by
  obtain ⟨h1, h2, h3, ⟨m, m1, m2, m3⟩, h5, h6, h7⟩ := h
  refine ⟨fun q hq => ?_, fun f hf => ?_, fun f hf => ?_, ⟨m, m1, by rw [sU_row (by decide)]; exact m2, fun q hq => ?_⟩, ?_, ?_, fun f hf => ?_⟩
  · rw [sU_ne (by omega), sU_row (by decide)]; exact h1 q hq
  · rw [sU_ne (by omega), sU_row (by decide)]; exact h2 f hf
  · by_cases e : f = k
    · subst e; rw [sU_eq, sU_eq]
    · rw [sU_ne (by omega), sU_ne e]; exact h3 f hf
  · rw [sU_ne (by omega)]; exact m3 q hq
  · rw [sU_ne (by omega), sU_row (by decide)]; exact h5
  · rw [sU_ne (by omega), sU_ne (by omega)]; exact h6
  · rw [sU_row (by decide)]; exact h7 f hf
theorem r_setReturn {G : GR} {R : SR} (h : REL3 G R) (v1 v2 : Int32) : (f_X5_setReturn G v1 v2).1 = (f_X6_setReturn R v1 v2).1 ∧ REL3 (f_X5_setReturn G v1 v2).2 (f_X6_setReturn R v1 v2).2 := by
  dsimp only [f_X5_setReturn, f_X5_setReturn_p43, f_X6_setReturn, sLet]
  rw [e4, ew]
  by_cases c1 : f_X6_isFour v1 = 0
  · rw [if_pos c1, if_pos c1]; exact ⟨rfl, rel3_ro h⟩
  · rw [if_neg c1, if_neg c1]
    by_cases c2 : f_X6_in v2 (-1) 11 = 0
    · rw [if_pos c2, if_pos c2]; exact ⟨rfl, rel3_ro h⟩
    · rw [if_neg c2, if_neg c2]
      obtain ⟨a, ha, rfl⟩ := vp_in_of (four_vp c1) (by decide)
      have g := rel3_act (rel3_ro h)
      have x84 := (fix80 a ha).2
      have xa := nI_clamp (show a < 2 ^ 31 by omega)
      have good : f_X1_keep G 0 5 (nI a).toNatClampNeg = f_X6_act (sU R 6 0 0) 0 (84 + nI a).toNatClampNeg ∧ REL3 (va_up (f_X1_keep G) 0 (sU (f_X1_keep G 0) 5 (nI a).toNatClampNeg v2)) (sU (f_X6_act (sU R 6 0 0)) 0 (84 + nI a).toNatClampNeg v2) := by
        rw [x84, xa]
        exact ⟨(g.1.2.2.1 a ha).symm, rel3_now g (cur_ret g.1 ha) (sU_row (by decide)) (sU_row (by decide)) (by rw [sU_row (by decide)]) (by rw [sU_row (by decide)])⟩
      rcases in_m1 c2 with e | e
      · subst e
        rw [if_pos rfl, if_pos (show f_X4_feedBackInto (G 0) (-1) = -99 by rw [f_X4_feedBackInto, if_neg (by decide)])]
        dsimp only
        exact good
      · obtain ⟨b, hb, rfl⟩ := vp_in_of e (by decide)
        have hb0 := back_eq (rel3_ro h).1 (p := nI b) (nI_pos' (by omega))
        rw [if_neg (show ¬ nI b = -1 from fun z => nI_pos (n := b) (by omega) (by rw [z]; decide)), hb0]
        by_cases d1 : f_X6_backInto (sU R 6 0 0) (nI b) = -99
        · rw [if_pos d1, if_pos d1]
          dsimp only
          exact good
        · rw [if_neg d1, if_neg d1]
          by_cases d2 : f_X6_backInto (sU R 6 0 0) (nI b) = nI a
          · rw [if_pos d2, if_pos d2]
            dsimp only
            exact good
          · rw [if_neg d2, if_neg d2]; exact ⟨rfl, rel3_ro h⟩
