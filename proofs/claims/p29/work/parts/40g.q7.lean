/-! p29, 7: routes on masks -/
theorem gain_of {M : SR} (h : SAN M) {f c : Nat} (hf : f < 4) (hc : c < 12) : ∃ g l s : Nat, f_X4_gainOf M (nI f) (nI c) = nI g ∧ f_X4_levelOf M (nI c) = nI l ∧ M 1 c = nI s ∧ g ≤ l ∧ l ≤ s ∧ s ≤ 100 := by
  obtain ⟨s, l, s1, l1, l2, l3⟩ := lev (s_1 h) hc
  obtain ⟨g, g1, g2⟩ := gain_at (s_3 h) (f := f) (c := c) (l := l) hf hc (by omega)
  exact ⟨g, l, s, by rw [f_X4_gainOf, l3]; exact g2, l3, l2, g1, l1, s1⟩
def gp (M : SR) (f c : Nat) : Prop := ¬ f_X4_gainOf M (nI f) (nI c) ≤ 0
def mkm (M : SR) (c : Nat) : Nat := (if f_X4_gainOf M (nI 0) (nI c) ≤ 0 then 0 else 1) + (if f_X4_gainOf M (nI 1) (nI c) ≤ 0 then 0 else 2) + (if f_X4_gainOf M (nI 2) (nI c) ≤ 0 then 0 else 4) + (if f_X4_gainOf M (nI 3) (nI c) ≤ 0 then 0 else 8)
theorem mkm_lt (M : SR) (c : Nat) : mkm M c < 16 := by
  unfold mkm
  split <;> split <;> split <;> split <;> decide
theorem mkm_bt (M : SR) (c : Nat) {f : Nat} (hf : f < 4) : bt (mkm M c) f ↔ gp M f c := by
  unfold mkm gp bt
  rcases (show f = 0 ∨ f = 1 ∨ f = 2 ∨ f = 3 by omega) with rfl | rfl | rfl | rfl
  · by_cases q : f_X4_gainOf M (nI 0) (nI c) ≤ 0
    · rw [if_pos q]; split <;> split <;> split <;> exact ⟨fun z => absurd z (by decide), fun z => absurd q z⟩
    · rw [if_neg q]; split <;> split <;> split <;> exact ⟨fun _ => q, fun _ => by decide⟩
  · by_cases q : f_X4_gainOf M (nI 1) (nI c) ≤ 0
    · rw [if_pos q]; split <;> split <;> split <;> exact ⟨fun z => absurd z (by decide), fun z => absurd q z⟩
    · rw [if_neg q]; split <;> split <;> split <;> exact ⟨fun _ => q, fun _ => by decide⟩
  · by_cases q : f_X4_gainOf M (nI 2) (nI c) ≤ 0
    · rw [if_pos q]; split <;> split <;> split <;> exact ⟨fun z => absurd z (by decide), fun z => absurd q z⟩
    · rw [if_neg q]; split <;> split <;> split <;> exact ⟨fun _ => q, fun _ => by decide⟩
  · by_cases q : f_X4_gainOf M (nI 3) (nI c) ≤ 0
    · rw [if_pos q]; split <;> split <;> split <;> exact ⟨fun z => absurd z (by decide), fun z => absurd q z⟩
    · rw [if_neg q]; split <;> split <;> split <;> exact ⟨fun _ => q, fun _ => by decide⟩
theorem bt_dec : ∀ a : Nat, a < 16 → ∀ b : Nat, b < 16 → (∀ g : Nat, g < 4 → (a / 2 ^ g % 2 = 1 ↔ b / 2 ^ g % 2 = 1)) → a = b := by decide +kernel
theorem pw_new {m f : Nat} (h : m < 2 ^ f) : m + 2 ^ f < 2 ^ (f + 1) ∧ ¬ m / 2 ^ f % 2 = 1 ∧ (m + 2 ^ f) / 2 ^ f % 2 = 1 ∧ ∀ g : Nat, g < f → (m + 2 ^ f) / 2 ^ g % 2 = m / 2 ^ g % 2 := by
  have hp : 0 < 2 ^ f := Nat.two_pow_pos f
  refine ⟨by rw [Nat.pow_succ]; omega, by rw [Nat.div_eq_of_lt h]; decide, by rw [Nat.add_div_right m hp, Nat.div_eq_of_lt h], fun g hg => ?_⟩
  obtain ⟨d, rfl⟩ : ∃ d, f = g + 1 + d := ⟨f - g - 1, by omega⟩
  rw [show 2 ^ (g + 1 + d) = 2 ^ g * (2 * 2 ^ d) by rw [Nat.pow_add, Nat.pow_succ, Nat.mul_assoc], Nat.add_mul_div_left _ _ (Nat.two_pow_pos g)]
  omega
theorem or_pow0 : ∀ f : Nat, f < 4 → ∀ m : Nat, m < 16 → nI m &&& nI (2 ^ f) = 0 → nI m ||| (1 <<< (nI f &&& 31)) = nI (m + 2 ^ f) := by decide +kernel
theorem or_pow1 : ∀ f : Nat, f < 4 → ∀ m : Nat, m < 2 ^ f → nI m &&& nI (2 ^ f) = 0 := by decide +kernel
theorem or_pow (f : Nat) (hf : f < 4) (m : Nat) (hm : m < 16) (h : m < 2 ^ f) : nI m ||| (1 <<< (nI f &&& 31)) = nI (m + 2 ^ f) ∧ m + 2 ^ f < 2 ^ (f + 1) ∧ ¬ m / 2 ^ f % 2 = 1 ∧ (m + 2 ^ f) / 2 ^ f % 2 = 1 ∧ ∀ g : Nat, g < 4 → g < f → (m + 2 ^ f) / 2 ^ g % 2 = m / 2 ^ g % 2 := by
  obtain ⟨p1, p2, p3, p4⟩ := pw_new h
  exact ⟨or_pow0 f hf m hm (or_pow1 f hf m h), p1, p2, p3, fun g _ hg => p4 g hg⟩
theorem pow_le : ∀ f : Nat, f < 5 → 2 ^ f ≤ 16 := by decide
theorem sv_17 {M : SR} (kb : Int32 → SR → SR) {c : Nat} (hc : c < 12) : ∀ (n f m : Nat) (T : SR), n + f = 5 → f ≤ 4 → m < 2 ^ f → T 0 c = nI m → (∀ g : Nat, g < f → (bt m g ↔ gp M g c)) → ∃ T' : SR, f_X3_survey_p17 M kb n (nI c) (nI f) T = kb (nI (c + 1)) T' ∧ T' 0 c = nI (mkm M c) ∧ (∀ k : Nat, k ≠ c → T' 0 k = T 0 k) ∧ ∀ r : Nat, r ≠ 0 → T' r = T r := by
  intro n
  induction n with
  | zero => intro f m T hn hf; omega
  | succ n ih =>
    intro f m T hn hf hm h1 h2
    have hp := pow_le f (by omega)
    rw [f_X3_survey_p17]
    by_cases q4 : (4 : Int32) ≤ nI f
    · have e : f = 4 := by
        have := (nI_leI (a := 4) (b := f) (by omega) (by omega)).mp q4
        omega
      subst e
      rw [if_pos q4, nI_1]
      refine ⟨T, rfl, ?_, fun _ _ => rfl, fun _ _ => rfl⟩
      rw [h1, bt_dec m (by omega) (mkm M c) (mkm_lt M c) (fun g hg => (h2 g hg).trans (mkm_bt M c hg).symm)]
    · have q : f < 4 := lp_ge (x := nI f) rfl (show (4 : Int32) = nI 4 from rfl) (by omega) (by omega) q4
      obtain ⟨o1, o2, o3, o4, o5⟩ := or_pow f q m (by omega) hm
      rw [if_neg q4, nI_1]
      by_cases d : f_X4_gainOf M (nI f) (nI c) ≤ 0
      · rw [if_pos d]
        refine ih (f + 1) m T (by omega) (by omega) (by omega) h1 (fun g hg => ?_)
        by_cases e : g = f
        · subst e; exact ⟨fun z => absurd z o3, fun z => absurd d z⟩
        · exact h2 g (by omega)
      · rw [if_neg d, sLet_eq, nI_clamp (show c < 2 ^ 31 by omega), h1, o1]
        obtain ⟨T', e1, e2, e3, e4⟩ := ih (f + 1) (m + 2 ^ f) (sU T 0 c (nI (m + 2 ^ f))) (by omega) (by omega) o2 sU_eq (fun g hg => by
          by_cases e : g = f
          · subst e; exact ⟨fun _ => d, fun _ => o4⟩
          · have := o5 g (by omega) (by omega)
            unfold bt
            rw [this]
            exact h2 g (by omega))
        exact ⟨T', e1, e2, fun k hk => (e3 k hk).trans (sU_ne hk), fun r hr => (e4 r hr).trans (sU_row hr)⟩
theorem sv_2 {M : SR} : ∀ (n c : Nat) (T : SR), n + c = 13 → c ≤ 12 → (∀ k : Nat, k < c → T 0 k = nI (mkm M k)) → (∀ k : Nat, k < 12 → (f_X3_survey_p2 M n (nI c) T) 0 k = nI (mkm M k)) ∧ ∀ r : Nat, r ≠ 0 → (f_X3_survey_p2 M n (nI c) T) r = T r := by
  intro n
  induction n with
  | zero => intro c T hn hc; omega
  | succ n ih =>
    intro c T hn hc h
    rw [f_X3_survey_p2]
    by_cases q12 : (12 : Int32) ≤ nI c
    · have e : c = 12 := by
        have := (nI_leI (a := 12) (b := c) (by omega) (by omega)).mp q12
        omega
      subst e
      rw [if_pos q12]; exact ⟨h, fun _ _ => rfl⟩
    · have q : c < 12 := lp_ge (x := nI c) rfl (show (12 : Int32) = nI 12 from rfl) (by omega) (by omega) q12
      rw [if_neg q12, sLet_eq, nI_clamp (by omega)]
      obtain ⟨T', e1, e2, e3, e4⟩ := sv_17 (M := M) (f_X3_survey_p2 M n) q 5 0 0 (sU T 0 c 0) (by omega) (by omega) (by decide) (by rw [sU_eq, nI_0]) (fun g hg => by omega)
      rw [nI_0] at e1
      rw [e1]
      obtain ⟨i1, i2⟩ := ih (c + 1) T' (by omega) (by omega) (fun k hk => by
        by_cases e : k = c
        · subst e; exact e2
        · rw [e3 k e, sU_ne e]; exact h k (by omega))
      exact ⟨i1, fun r hr => (i2 r hr).trans ((e4 r hr).trans (sU_row hr))⟩
theorem survey_eq (M T : SR) : (∀ k : Nat, k < 12 → (f_X3_survey T M) 0 k = nI (mkm M k)) ∧ ∀ r : Nat, r ≠ 0 → (f_X3_survey T M) r = T r := by
  rw [f_X3_survey]
  have h := sv_2 (M := M) 13 0 T (by omega) (by omega) (fun k hk => by omega)
  rw [nI_0] at h
  exact h
def MSK (M T : SR) : Prop := ∀ k : Nat, k < 12 → T 0 k = nI (mkm M k)
/-- the mask that a feed comes back into -/
def Af (M : SR) (f : Nat) : Nat := if M 5 f < 0 then 0 else mkm M (M 5 f).toNatClampNeg
theorem af_lt (M : SR) (f : Nat) : Af M f < 16 := by
  unfold Af
  by_cases c : M 5 f < 0
  · rw [if_pos c]; decide
  · rw [if_neg c]; exact mkm_lt M _
theorem hb4 : ∀ m : Nat, m < 16 → ∀ f : Nat, f < 4 → (f_X5_hasBit (nI m) (nI f) = 0 ↔ ¬ m / 2 ^ f % 2 = 1) := by decide +kernel
theorem or16 : ∀ a : Nat, a < 16 → ∀ b : Nat, b < 16 → nI a ||| nI b = nI (a ||| b) ∧ a ||| b < 16 := by decide +kernel
theorem rd1_lt {A : Nat → Nat} (hA : ∀ f : Nat, A f < 16) {f m : Nat} (hm : m < 16) : rd1 A f m < 16 := by
  unfold rd1
  by_cases c : m / 2 ^ f % 2 = 1
  · rw [if_pos c]; exact (or16 m hm _ (hA f)).2
  · rw [if_neg c]; exact hm
theorem rd_lt {A : Nat → Nat} (hA : ∀ f : Nat, A f < 16) {m : Nat} (hm : m < 16) : rd A m < 16 := rd1_lt hA (rd1_lt hA (rd1_lt hA (rd1_lt hA hm)))
theorem ff_step {M T : SR} (h : SAN M) (hT : ∀ k : Nat, k < 12 → T 0 k = nI (mkm M k)) (p1 : Int32) (kb : Int32 → Int32 → Int32) (x3 : Int32) {n f m : Nat} (hf : f < 4) (hm : m < 16) : f_X3_feedsFrom_p17 T M p1 kb (n + 1) (nI m) x3 (nI f) = f_X3_feedsFrom_p17 T M p1 kb n (nI (rd1 (Af M) f m)) x3 (nI (f + 1)) := by
  rw [f_X3_feedsFrom_p17, if_neg (show ¬ (4 : Int32) ≤ nI f from nI_ge (b := 4) hf (by omega)), nI_1, nI_clamp (show f < 2 ^ 31 by omega)]
  unfold rd1
  by_cases c : m / 2 ^ f % 2 = 1
  · rw [if_neg (fun z => (hb4 m hm f hf).mp z c), if_pos c]
    unfold Af
    by_cases d : M 5 f < 0
    · rw [if_pos d, if_pos d, Nat.or_zero]
    · rw [if_neg d, if_neg d]
      rcases (s_5 h).1 f hf with e | ⟨k, k1, k2⟩
      · exact absurd (by rw [e]; decide) d
      · rw [k2, nI_clamp (show k < 2 ^ 31 by omega), hT k (by omega), (or16 m hm _ (mkm_lt M k)).1]
  · rw [if_pos ((hb4 m hm f hf).mpr c), if_neg c]
theorem ff_round {M T : SR} (h : SAN M) (hT : ∀ k : Nat, k < 12 → T 0 k = nI (mkm M k)) (p1 : Int32) (kb : Int32 → Int32 → Int32) (x3 : Int32) {m : Nat} (hm : m < 16) : f_X3_feedsFrom_p17 T M p1 kb 5 (nI m) x3 0 = kb (nI (rd (Af M) m)) (x3 + 1) := by
  have e := ff_step h hT p1 kb x3 (n := 4) (f := 0) (m := m) (by omega) hm
  rw [nI_0] at e
  have l0 := rd1_lt (af_lt M) (f := 0) hm
  have l1 := rd1_lt (af_lt M) (f := 1) l0
  have l2 := rd1_lt (af_lt M) (f := 2) l1
  rw [e, ff_step h hT p1 kb x3 (n := 3) (f := 0 + 1) (by omega) l0, ff_step h hT p1 kb x3 (n := 2) (f := 0 + 1 + 1) (by omega) l1, ff_step h hT p1 kb x3 (n := 1) (f := 0 + 1 + 1 + 1) (by omega) l2, f_X3_feedsFrom_p17, if_pos (show (4 : Int32) ≤ nI (0 + 1 + 1 + 1 + 1) by decide)]
  rfl
theorem feeds_eq {M T : SR} (h : SAN M) (hT : ∀ k : Nat, k < 12 → T 0 k = nI (mkm M k)) {c : Nat} (hc : c < 12) : f_X3_feedsFrom T M (nI c) = nI (rd (Af M) (rd (Af M) (rd (Af M) (mkm M c)))) := by
  have l0 := mkm_lt M c
  have l1 := rd_lt (af_lt M) l0
  have l2 := rd_lt (af_lt M) l1
  rw [f_X3_feedsFrom, nI_clamp (by omega), hT c hc, f_X3_feedsFrom_p9, if_neg (by decide), ff_round h hT _ _ _ l0, f_X3_feedsFrom_p9, if_neg (by decide), ff_round h hT _ _ _ l1, f_X3_feedsFrom_p9, if_neg (by decide), ff_round h hT _ _ _ l2, f_X3_feedsFrom_p9, if_pos (by decide)]
/-- there is a path -/
def PT (M : SR) (c f : Nat) : Prop := ∃ k : Nat, k ≤ 3 ∧ WK (Af M) k (mkm M c) f
theorem feeds_bit {M T : SR} (h : SAN M) (hT : ∀ k : Nat, k < 12 → T 0 k = nI (mkm M k)) {c f : Nat} (hc : c < 12) (hf : f < 4) : ¬ f_X5_hasBit (f_X3_feedsFrom T M (nI c)) (nI f) = 0 ↔ PT M c f := by
  rw [feeds_eq h hT hc]
  have l3 := rd_lt (af_lt M) (rd_lt (af_lt M) (rd_lt (af_lt M) (mkm_lt M c)))
  constructor
  · intro z
    refine (found hf).mp ?_
    by_cases q : bt (rd (Af M) (rd (Af M) (rd (Af M) (mkm M c)))) f
    · exact q
    · exact absurd ((hb4 _ l3 f hf).mpr q) z
  · intro z q
    exact (hb4 _ l3 f hf).mp q ((found hf).mpr z)
