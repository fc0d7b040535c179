/-! p29, 9: the greatest gain -/
def BP (P : Nat → Prop) (B : Nat) (T : SR) : Prop := ∀ g : Nat, g < 4 → (P g ∧ ∃ b : Nat, b ≤ B ∧ T 2 g = nI b) ∨ (¬ P g ∧ T 2 g = -99)
def UP (T T' : SR) : Prop := ∀ g b : Nat, g < 4 → b ≤ 100 → T 2 g = nI b → ∃ b' : Nat, b ≤ b' ∧ b' ≤ 100 ∧ T' 2 g = nI b'
theorem up_rf {T : SR} : UP T T := fun g b hg hb h => ⟨b, Nat.le_refl b, hb, h⟩
theorem up_tr {A B C : SR} (h : UP A B) (k : UP B C) : UP A C := fun g b hg hb e => by
  obtain ⟨b', h1, h2, h3⟩ := h g b hg hb e
  obtain ⟨b'', k1, k2, k3⟩ := k g b' hg h2 h3
  exact ⟨b'', by omega, k2, k3⟩
theorem bp_iff {P Q : Nat → Prop} {B : Nat} {T : SR} (h : BP P B T) (e : ∀ g : Nat, g < 4 → (P g ↔ Q g)) : BP Q B T := fun g hg => by
  rcases h g hg with ⟨a, b⟩ | ⟨a, b⟩
  · exact Or.inl ⟨(e g hg).mp a, b⟩
  · exact Or.inr ⟨fun z => a ((e g hg).mpr z), b⟩
theorem sp_loop {M : SR} (h : SAN M) {k a B : Nat} (hk : k < 12) (ha : a ≤ 100) (hB : B ≤ 100) (hab : ∀ g gg : Nat, g < 4 → f_X4_gainOf M (nI g) (nI k) = nI gg → gg ≤ 100 → a * gg / 100 ≤ B) (P : Nat → Prop) : ∀ (n f : Nat) (T : SR), n + f = 5 → f ≤ 4 → BP (fun g => P g ∨ (g < f ∧ gp M g k)) B T → (∀ g gg : Nat, g < f → gp M g k → f_X4_gainOf M (nI g) (nI k) = nI gg → gg ≤ 100 → ∃ b : Nat, a * gg / 100 ≤ b ∧ b ≤ 100 ∧ T 2 g = nI b) → BP (fun g => P g ∨ gp M g k) B (f_X3_spread_p2 M (nI k) (nI a) n (nI f) T) ∧ UP T (f_X3_spread_p2 M (nI k) (nI a) n (nI f) T) ∧ (∀ g gg : Nat, g < 4 → gp M g k → f_X4_gainOf M (nI g) (nI k) = nI gg → gg ≤ 100 → ∃ b : Nat, a * gg / 100 ≤ b ∧ b ≤ 100 ∧ (f_X3_spread_p2 M (nI k) (nI a) n (nI f) T) 2 g = nI b) := by
  intro n
  induction n with
  | zero => intro f T hn hf; omega
  | succ n ih =>
    intro f T hn hf h1 h2
    rw [f_X3_spread_p2]
    by_cases q4 : (4 : Int32) ≤ nI f
    · have e : f = 4 := by
        have := (nI_leI (a := 4) (b := f) (by omega) (by omega)).mp q4
        omega
      subst e
      rw [if_pos q4]
      refine ⟨bp_iff h1 (fun g hg => ⟨fun z => ?_, fun z => ?_⟩), up_rf, h2⟩
      · rcases z with z | ⟨-, z⟩
        · exact Or.inl z
        · exact Or.inr z
      · rcases z with z | z
        · exact Or.inl z
        · exact Or.inr ⟨hg, z⟩
    · have q : f < 4 := lp_ge (x := nI f) rfl (show (4 : Int32) = nI 4 from rfl) (by omega) (by omega) q4
      obtain ⟨gg, l, s, e1, -, -, e4, e5, e6⟩ := gain_of h q hk
      rw [if_neg q4, nI_1, nI_clamp (show f < 2 ^ 31 by omega)]
      by_cases d : f_X4_gainOf M (nI f) (nI k) ≤ 0
      · rw [if_pos d]
        refine ih (f + 1) T (by omega) (by omega) (bp_iff h1 (fun g hg => ⟨fun z => ?_, fun z => ?_⟩)) (fun g gg hg hp => ?_)
        · rcases z with z | ⟨z1, z2⟩
          · exact Or.inl z
          · exact Or.inr ⟨by omega, z2⟩
        · rcases z with z | ⟨z1, z2⟩
          · exact Or.inl z
          · refine Or.inr ⟨?_, z2⟩
            rcases Nat.lt_or_eq_of_le (show g ≤ f by omega) with w | w
            · exact w
            · subst w; exact absurd d z2
        · rcases Nat.lt_or_eq_of_le (show g ≤ f by omega) with w | w
          · exact h2 g gg w hp
          · subst w; exact absurd d hp
      · have hp0 : a * gg ≤ 100 * 100 := Nat.mul_le_mul ha (by omega)
        have hw := hab f gg q e1 (by omega)
        rw [if_neg d, sLet_eq, e1, nI_mul, show (100 : Int32) = nI 100 from rfl, pk_div (by omega) (by omega) (by omega)]
        generalize hwv : a * gg / 100 = w at hw ⊢
        have hnew : ∃ b : Nat, w ≤ b ∧ b ≤ B ∧ (if T 2 f < nI w then nI w else T 2 f) = nI b ∧ (∀ b0 : Nat, b0 ≤ 100 → T 2 f = nI b0 → b0 ≤ b) := by
          rcases h1 f q with ⟨-, b, b1, b2⟩ | ⟨-, b2⟩
          · by_cases z : b < w
            · exact ⟨w, Nat.le_refl w, hw, by rw [b2, if_pos (nI_lt z (by omega))], fun b0 hb0 e => by
                have : b = b0 := (nI_eq (by omega) (by omega)).mp (b2.symm.trans e)
                omega⟩
            · exact ⟨b, by omega, b1, by rw [b2, if_neg (nI_nlt (by omega) (by omega))], fun b0 hb0 e => by
                have : b = b0 := (nI_eq (by omega) (by omega)).mp (b2.symm.trans e)
                omega⟩
          · refine ⟨w, Nat.le_refl w, hw, by rw [b2, if_pos (show (-99 : Int32) < nI w from by
              rw [Int32.lt_iff_toInt_lt, nI_toInt (by omega), show (-99 : Int32).toInt = -99 by decide]
              omega)], fun b0 hb0 e => ?_⟩
            exact absurd (show nI b0 < 0 by rw [← e, b2]; decide) (nI_pos (by omega))
        obtain ⟨b, b1, b2, b3, b4⟩ := hnew
        rw [b3]
        obtain ⟨i1, i2, i3⟩ := ih (f + 1) (sU T 2 f (nI b)) (by omega) (by omega) (fun g hg => by
          dsimp only
          by_cases e : g = f
          · subst e; exact Or.inl ⟨Or.inr ⟨by omega, d⟩, b, b2, sU_eq⟩
          · rw [sU_ne e]
            rcases h1 g hg with ⟨z, z2⟩ | ⟨z, z2⟩
            · refine Or.inl ⟨?_, z2⟩
              rcases z with z | ⟨z1, z3⟩
              · exact Or.inl z
              · exact Or.inr ⟨by omega, z3⟩
            · refine Or.inr ⟨fun y => z ?_, z2⟩
              rcases y with y | ⟨y1, y3⟩
              · exact Or.inl y
              · exact Or.inr ⟨by omega, y3⟩) (fun g gg' hg hp e0 hgg => by
          by_cases e : g = f
          · subst e
            have : gg' = gg := (nI_eq (by omega) (by omega)).mp (e0.symm.trans e1)
            subst this
            exact ⟨b, by omega, by omega, sU_eq⟩
          · rw [sU_ne e]; exact h2 g gg' (by omega) hp e0 hgg)
        refine ⟨i1, up_tr (fun g b0 hg hb0 e0 => ?_) i2, i3⟩
        by_cases e : g = f
        · subst e; exact ⟨b, b4 b0 hb0 e0, by omega, sU_eq⟩
        · exact ⟨b0, Nat.le_refl b0, hb0, by rw [sU_ne e]; exact e0⟩
theorem sp_all {M T : SR} (h : SAN M) {k a B : Nat} (hk : k < 12) (ha : a ≤ 100) (hB : B ≤ 100) (hab : ∀ g gg : Nat, g < 4 → f_X4_gainOf M (nI g) (nI k) = nI gg → gg ≤ 100 → a * gg / 100 ≤ B) {P : Nat → Prop} (h1 : BP P B T) : BP (fun g => P g ∨ gp M g k) B (f_X3_spread T M (nI k) (nI a)) ∧ UP T (f_X3_spread T M (nI k) (nI a)) ∧ (∀ g gg : Nat, g < 4 → gp M g k → f_X4_gainOf M (nI g) (nI k) = nI gg → gg ≤ 100 → ∃ b : Nat, a * gg / 100 ≤ b ∧ b ≤ 100 ∧ (f_X3_spread T M (nI k) (nI a)) 2 g = nI b) := by
  rw [f_X3_spread]
  have e := sp_loop h hk ha hB hab P 5 0 T (by omega) (by omega) (bp_iff h1 (fun g hg => ⟨fun z => Or.inl z, fun z => by
    rcases z with z | ⟨z, -⟩
    · exact z
    · omega⟩)) (fun g gg hg => by omega)
  rw [nI_0] at e
  exact e
theorem gg_step {M : SR} (h : SAN M) (p1 p2 x3 : Int32) (kb : Int32 → SR → (Int32 × SR)) {n f m B : Nat} (hf : f < 4) (hB : B ≤ 100) {T : SR} (hT : BP (fun g => bt m g) B T) : ∃ T' : SR, f_X3_greatestGain_p38 M p1 p2 kb (n + 1) x3 (nI f) T = f_X3_greatestGain_p38 M p1 p2 kb n x3 (nI (f + 1)) T' ∧ BP (fun g => bt (rd1 (Af M) f m) g) B T' ∧ UP T T' := by
  rw [f_X3_greatestGain_p38, if_neg (show ¬ (4 : Int32) ≤ nI f from nI_ge (b := 4) hf (by omega)), nI_1, nI_clamp (show f < 2 ^ 31 by omega)]
  have same : ¬ bt m f ∨ Af M f = 0 → BP (fun g => bt (rd1 (Af M) f m) g) B T := fun hz => by
    have e : rd1 (Af M) f m = m := by
      unfold rd1
      by_cases c : m / 2 ^ f % 2 = 1
      · rcases hz with z | z
        · exact absurd c z
        · rw [if_pos c, z, Nat.or_zero]
      · rw [if_neg c]
    rw [e]; exact hT
  rcases hT f hf with ⟨b1, b, b2, b3⟩ | ⟨b1, b2⟩
  · rw [if_neg (show ¬ T 2 f = -99 from fun z => nI_pos (n := b) (by omega) (by rw [← b3, z]; decide))]
    by_cases d : M 5 f < 0
    · rw [if_pos d]
      exact ⟨T, rfl, same (Or.inr (if_pos d)), up_rf⟩
    · obtain ⟨j, j1, j2, j3⟩ := af_eq h hf d
      rw [if_neg d, sLet_eq, j2, b3]
      obtain ⟨s1, s2, -⟩ := sp_all h (T := T) (k := j) (a := b) (B := B) j1 (by omega) hB (fun g gg hg he hgg => Nat.le_trans (hundredth hgg) b2) hT
      refine ⟨_, rfl, bp_iff s1 (fun g hg => ?_), s2⟩
      constructor
      · intro z
        rcases z with z | z
        · exact rd1_up z
        · refine rd1_at b1 ?_
          rw [j3]; exact (mkm_bt M j hg).mpr z
      · intro z
        rcases rd1_of z with z | ⟨-, z⟩
        · exact Or.inl z
        · rw [j3] at z; exact Or.inr ((mkm_bt M j hg).mp z)
  · rw [if_pos b2]
    exact ⟨T, rfl, same (Or.inl b1), up_rf⟩
theorem gg_round {M : SR} (h : SAN M) (p1 p2 x3 : Int32) (kb : Int32 → SR → (Int32 × SR)) {m B : Nat} (hB : B ≤ 100) {T : SR} (hT : BP (fun g => bt m g) B T) : ∃ T' : SR, f_X3_greatestGain_p38 M p1 p2 kb 5 x3 0 T = kb (x3 + 1) T' ∧ BP (fun g => bt (rd (Af M) m) g) B T' ∧ UP T T' := by
  obtain ⟨T1, e1, a1, u1⟩ := gg_step h p1 p2 x3 kb (n := 4) (f := 0) (by omega) hB hT
  obtain ⟨T2, e2, a2, u2⟩ := gg_step h p1 p2 x3 kb (n := 3) (f := 0 + 1) (by omega) hB a1
  obtain ⟨T3, e3, a3, u3⟩ := gg_step h p1 p2 x3 kb (n := 2) (f := 0 + 1 + 1) (by omega) hB a2
  obtain ⟨T4, e4, a4, u4⟩ := gg_step h p1 p2 x3 kb (n := 1) (f := 0 + 1 + 1 + 1) (by omega) hB a3
  rw [nI_0] at e1
  refine ⟨T4, ?_, a4, up_tr u1 (up_tr u2 (up_tr u3 u4))⟩
  rw [e1, e2, e3, e4, f_X3_greatestGain_p38, if_pos (show (4 : Int32) ≤ nI (0 + 1 + 1 + 1 + 1) by decide)]
theorem gg_2 {M : SR} (p1 p2 : Int32) : ∀ (n f : Nat) (T : SR), n + f = 5 → f ≤ 4 → (∀ g : Nat, g < f → T 2 g = -99) → ∃ T' : SR, f_X3_greatestGain_p2 M p1 p2 n (nI f) T = f_X3_greatestGain_p30 M p1 p2 6 2 (f_X3_spread T' M p1 100) ∧ ∀ g : Nat, g < 4 → T' 2 g = -99 := by
  intro n
  induction n with
  | zero => intro f T hn hf; omega
  | succ n ih =>
    intro f T hn hf h1
    rw [f_X3_greatestGain_p2]
    by_cases q4 : (4 : Int32) ≤ nI f
    · have e : f = 4 := by
        have := (nI_leI (a := 4) (b := f) (by omega) (by omega)).mp q4
        omega
      subst e
      rw [if_pos q4, sLet_eq]
      exact ⟨T, rfl, h1⟩
    · have q : f < 4 := lp_ge (x := nI f) rfl (show (4 : Int32) = nI 4 from rfl) (by omega) (by omega) q4
      rw [if_neg q4, sLet_eq, nI_1, nI_clamp (by omega)]
      refine ih (f + 1) _ (by omega) (by omega) (fun g hg => ?_)
      by_cases e : g = f
      · subst e; exact sU_eq
      · rw [sU_ne e]; exact h1 g (by omega)
/-- what loudest() tells -/
theorem loud_spec {M T : SR} (h : SAN M) {c f : Nat} (hc : c < 12) (hf : f < 4) : ∃ g l b : Nat, f_X4_gainOf M (nI f) (nI c) = nI g ∧ f_X4_levelOf M (nI c) = nI l ∧ g ≤ l ∧ l ≤ 100 ∧ ((PT M c f ∧ (f_X3_greatestGain T M (nI c) (nI f)).1 = nI b ∧ b ≤ l ∧ (0 < g → g ≤ b)) ∨ (¬ PT M c f ∧ (f_X3_greatestGain T M (nI c) (nI f)).1 = -99)) := by
  obtain ⟨g, l, s, g1, g2, g3, g4, g5, g6⟩ := gain_of h hf hc
  obtain ⟨T1, e1, a1⟩ := gg_2 (M := M) (nI c) (nI f) 5 0 T (by omega) (by omega) (fun g hg => by omega)
  rw [nI_0] at e1
  have b0 : BP (fun _ => False) l T1 := fun g hg => Or.inr ⟨fun z => z, a1 g hg⟩
  obtain ⟨s1, s2, s3⟩ := sp_all h (T := T1) (k := c) (a := 100) (B := l) hc (by omega) (by omega) (fun g' gg hg he hgg => by
    obtain ⟨g'', l', s', z1, z2, z3, z4, z5, z6⟩ := gain_of h hg hc
    have e2 : gg = g'' := (nI_eq (by omega) (by omega)).mp (he.symm.trans z1)
    have e3 : l' = l := (nI_eq (by omega) (by omega)).mp (z2.symm.trans g2)
    rw [Nat.mul_comm, Nat.mul_div_cancel gg (show 0 < 100 by omega)]
    omega) b0
  have s1' : BP (fun g => bt (mkm M c) g) l (f_X3_spread T1 M (nI c) (nI 100)) := bp_iff s1 (fun g hg => ⟨fun z => by
    rcases z with z | z
    · exact z.elim
    · exact (mkm_bt M c hg).mpr z, fun z => Or.inr ((mkm_bt M c hg).mp z)⟩)
  obtain ⟨T2, r1, a2, u2⟩ := gg_round h (nI c) (nI f) 2 (f_X3_greatestGain_p30 M (nI c) (nI f) 5) (by omega) s1'
  obtain ⟨T3, r2, a3, u3⟩ := gg_round h (nI c) (nI f) (2 + 1) (f_X3_greatestGain_p30 M (nI c) (nI f) 4) (by omega) a2
  obtain ⟨T4, r3, a4, u4⟩ := gg_round h (nI c) (nI f) (2 + 1 + 1) (f_X3_greatestGain_p30 M (nI c) (nI f) 3) (by omega) a3
  have er : (f_X3_greatestGain T M (nI c) (nI f)).1 = T4 2 f := by
    rw [f_X3_greatestGain, e1, show (100 : Int32) = nI 100 from rfl, f_X3_greatestGain_p30, if_neg (by decide), r1, f_X3_greatestGain_p30, if_neg (by decide), r2, f_X3_greatestGain_p30, if_neg (by decide), r3, f_X3_greatestGain_p30, if_pos (by decide), nI_clamp (by omega)]
  rw [er]
  rcases a4 f hf with ⟨z, b, z2, z3⟩ | ⟨z, z2⟩
  · refine ⟨g, l, b, g1, g2, g4, by omega, Or.inl ⟨(found hf).mp z, z3, z2, fun hg => ?_⟩⟩
    obtain ⟨b', w1, w2, w3⟩ := s3 f g hf (fun y => by rw [g1] at y; exact nI_nle hg (by omega) y) g1 (by omega)
    obtain ⟨b'', v1, v2, v3⟩ := up_tr u2 (up_tr u3 u4) f b' hf w2 w3
    have : b = b'' := (nI_eq (by omega) (by omega)).mp (z3.symm.trans v3)
    rw [Nat.mul_comm, Nat.mul_div_cancel g (show 0 < 100 by omega)] at w1
    omega
  · exact ⟨g, l, 0, g1, g2, g4, by omega, Or.inr ⟨fun y => z ((found hf).mpr y), z2⟩⟩
