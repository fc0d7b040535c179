/-! p29, 11: the cut -/
theorem lev_cg_loop {M N : SR} (h1 : M 1 = N 1) (h2 : M 2 = N 2) (p : Int32) : ∀ (n : Nat) (x y : Int32), f_X4_levelOf_p30 M p n x y = f_X4_levelOf_p30 N p n x y := by
  intro n
  induction n with
  | zero => intro x y; rfl
  | succ n ih =>
    intro x y
    rw [f_X4_levelOf_p30, f_X4_levelOf_p30, h1, h2, ih, ih]
theorem lev_cg {M N : SR} (h1 : M 1 = N 1) (h2 : M 2 = N 2) (h10 : M 10 = N 10) (p : Int32) : f_X4_levelOf M p = f_X4_levelOf N p := by
  rw [f_X4_levelOf, f_X4_levelOf, f_X4_isSoloedAway, f_X4_isSoloedAway, h1, h2, h10, lev_cg_loop h1 h2]
theorem ff_cg_17 {T M N : SR} (h5 : M 5 = N 5) (p : Int32) (kb : Int32 → Int32 → Int32) (kb' : Int32 → Int32 → Int32) (hk : ∀ a b : Int32, kb a b = kb' a b) : ∀ (n : Nat) (x y z : Int32), f_X3_feedsFrom_p17 T M p kb n x y z = f_X3_feedsFrom_p17 T N p kb' n x y z := by
  intro n
  induction n with
  | zero => intro x y z; rfl
  | succ n ih =>
    intro x y z
    rw [f_X3_feedsFrom_p17, f_X3_feedsFrom_p17, h5, hk, ih, ih]
theorem ff_cg_9 {T M N : SR} (h5 : M 5 = N 5) (p : Int32) : ∀ (n : Nat) (x y : Int32), f_X3_feedsFrom_p9 T M p n x y = f_X3_feedsFrom_p9 T N p n x y := by
  intro n
  induction n with
  | zero => intro x y; rfl
  | succ n ih =>
    intro x y
    rw [f_X3_feedsFrom_p9, f_X3_feedsFrom_p9, ff_cg_17 h5 p (f_X3_feedsFrom_p9 T M p n) (f_X3_feedsFrom_p9 T N p n) ih]
theorem oh_cg_4 {T M N : SR} (h4 : M 4 = N 4) (h5 : M 5 = N 5) (p : Int32) : ∀ (n : Nat) (x y : Int32), f_X3_ownersHearing_p4 T M p n x y = f_X3_ownersHearing_p4 T N p n x y := by
  intro n
  induction n with
  | zero => intro x y; rfl
  | succ n ih =>
    intro x y
    rw [f_X3_ownersHearing_p4, f_X3_ownersHearing_p4, h4, f_X3_feedsFrom, f_X3_feedsFrom, ff_cg_9 h5, ih, ih]
theorem oh_cg {T M N : SR} (h4 : M 4 = N 4) (h5 : M 5 = N 5) (p : Int32) : f_X3_ownersHearing T M p = f_X3_ownersHearing T N p := by
  rw [f_X3_ownersHearing, f_X3_ownersHearing, oh_cg_4 h4 h5]
/-- the state without a send -/
def CU (M : SR) (s c : Nat) : SR := sU M 3 (12 * s + c) 0
theorem cu_san {M : SR} (h : SAN M) (s c : Nat) : SAN (CU M s c) := by
  unfold CU
  rw [up_sU]
  exact san_3 h (tn_up (s_3 h) in_0)
theorem cu_gain {M : SR} {s c f k : Nat} (hs : s < 4) (hc : c < 12) (hf : f < 4) (hk : k < 12) : f_X4_gainOf (CU M s c) (nI f) (nI k) = if f = s ∧ k = c then 0 else f_X4_gainOf M (nI f) (nI k) := by
  have r1 : (CU M s c) 1 = M 1 := sU_row (by decide)
  have r2 : (CU M s c) 2 = M 2 := sU_row (by decide)
  have r4 : (CU M s c) 4 = M 4 := sU_row (by decide)
  have r10 : (CU M s c) 10 = M 10 := sU_row (by decide)
  rw [f_X4_gainOf, f_X4_gainOf, lev_cg r1 r2 r10, f_X4_gainAt, f_X4_gainAt, r4, six f hf k hk]
  by_cases q : f = s ∧ k = c
  · obtain ⟨rfl, rfl⟩ := q
    have e : (CU M f k) 3 (12 * f + k) = 0 := sU_eq
    rw [if_pos (show f = f ∧ k = k from ⟨rfl, rfl⟩), e, Int32.mul_zero]
    by_cases d : f_X5_hasBit (M 4 (nI f).toNatClampNeg) (nI k) = 0
    · rw [if_pos d]; decide
    · rw [if_neg d]
  · have e : (CU M s c) 3 (12 * f + k) = M 3 (12 * f + k) := sU_ne (by omega)
    rw [if_neg q, e]
theorem cu_mkm {M : SR} {s c k : Nat} (hs : s < 4) (hc : c < 12) (hk : k < 12) (hkc : ¬ k = c) : mkm (CU M s c) k = mkm M k := by
  refine bt_dec _ (mkm_lt _ k) _ (mkm_lt M k) (fun g hg => ?_)
  refine (mkm_bt _ k hg).trans (Iff.trans ?_ (mkm_bt M k hg).symm)
  unfold gp
  rw [cu_gain hs hc hg hk, if_neg (fun z => hkc z.2)]
theorem wb_a : ∀ m : Nat, m < 16 → ∀ s : Nat, s < 4 → m / 2 ^ s % 2 = 1 → f_X5_withBit (nI m) (nI s) 0 = nI (m - 2 ^ s) := by decide +kernel
theorem wb_b : ∀ m : Nat, m < 16 → ∀ s : Nat, s < 4 → m / 2 ^ s % 2 = 1 → f_X5_withBit (nI (m - 2 ^ s)) (nI s) 1 = nI m := by decide +kernel
def wbq (m s g : Nat) : Bool := !(Nat.beq (m / 2 ^ s % 2) 1) || (Nat.beq g s && !(Nat.beq ((m - 2 ^ s) / 2 ^ g % 2) 1)) || (!(Nat.beq g s) && Nat.beq ((m - 2 ^ s) / 2 ^ g % 2) (m / 2 ^ g % 2))
theorem wbq_all : ∀ m : Nat, m < 16 → ∀ s : Nat, s < 4 → ∀ g : Nat, g < 4 → wbq m s g = true := by decide +kernel
theorem wb_c (m : Nat) (hm : m < 16) (s : Nat) (hs : s < 4) (g : Nat) (hg : g < 4) (h : m / 2 ^ s % 2 = 1) : (m - 2 ^ s) / 2 ^ g % 2 = 1 ↔ (¬ g = s ∧ m / 2 ^ g % 2 = 1) := by
  have w := wbq_all m hm s hs g hg
  unfold wbq at w
  rw [h] at w
  by_cases e : g = s
  · rw [Bool.or_eq_true, Bool.or_eq_true, Bool.and_eq_true, Bool.and_eq_true] at w
    rcases w with (w | ⟨-, w⟩) | ⟨w, -⟩
    · exact absurd w (by decide)
    · refine ⟨fun z => ?_, fun z => absurd e z.1⟩
      rw [z] at w
      exact absurd w (by decide)
    · rw [e, Nat.beq_refl] at w
      exact absurd w (by decide)
  · rw [Bool.or_eq_true, Bool.or_eq_true, Bool.and_eq_true, Bool.and_eq_true] at w
    rcases w with (w | ⟨w, -⟩) | ⟨-, w⟩
    · exact absurd w (by decide)
    · exact absurd (Nat.eq_of_beq_eq_true w) e
    · have q := Nat.eq_of_beq_eq_true w
      exact ⟨fun z => ⟨e, q.symm.trans z⟩, fun z => q.trans z.2⟩
theorem wb_off (m : Nat) (hm : m < 16) (s : Nat) (hs : s < 4) (h : m / 2 ^ s % 2 = 1) : f_X5_withBit (nI m) (nI s) 0 = nI (m - 2 ^ s) ∧ f_X5_withBit (nI (m - 2 ^ s)) (nI s) 1 = nI m ∧ m - 2 ^ s < 16 ∧ ∀ g : Nat, g < 4 → ((m - 2 ^ s) / 2 ^ g % 2 = 1 ↔ (¬ g = s ∧ m / 2 ^ g % 2 = 1)) :=
  ⟨wb_a m hm s hs h, wb_b m hm s hs h, Nat.lt_of_le_of_lt (Nat.sub_le _ _) hm, fun g hg => wb_c m hm s hs g hg h⟩
theorem cu_mkm_c {M : SR} {s c : Nat} (hs : s < 4) (hc : c < 12) (hb : bt (mkm M c) s) : mkm (CU M s c) c = mkm M c - 2 ^ s := by
  obtain ⟨-, -, w3, w4⟩ := wb_off (mkm M c) (mkm_lt M c) s hs hb
  refine bt_dec _ (mkm_lt _ c) _ w3 (fun g hg => ?_)
  rw [w4 g hg]
  refine (mkm_bt _ c hg).trans ?_
  unfold gp
  rw [cu_gain hs hc hg hc]
  by_cases q : g = s
  · subst q
    rw [if_pos ⟨rfl, rfl⟩]
    exact ⟨fun z => absurd (by decide) z, fun z => absurd rfl z.1⟩
  · rw [if_neg (fun z => q z.1)]
    exact ⟨fun z => ⟨q, (mkm_bt M c hg).mpr z⟩, fun z => (mkm_bt M c hg).mp z.2⟩
/-- without the send nobody hears -/
def QUIET (M : SR) (f : Nat) : Prop := ∀ k : Nat, k < 12 → ¬ (¬ f_X5_hasBit (M 4 f) (nI k) = 0 ∧ PT M k f)
theorem hear_zero {M T : SR} (h : SAN M) (hT : ∀ k : Nat, k < 12 → T 0 k = nI (mkm M k)) {f : Nat} (hf : f < 4) : f_X3_ownersHearing T M (nI f) = 0 ↔ QUIET M f := by
  obtain ⟨m, e, hm⟩ := hear_spec h hT hf
  rw [e]
  have := pow12 (Nat.le_refl 12) hm.1
  rw [show (0 : Int32) = nI 0 from nI_0.symm, nI_eq (by omega) (by omega)]
  exact mk_zero hm
theorem silent_spec {M T : SR} (h : SAN M) (hT : MSK M T) {s c f : Nat} (hs : s < 4) (hc : c < 12) (hf : f < 4) (hb : bt (mkm M c) s) : MSK M (f_X3_isSilentWithout T M (nI s) (nI c) (nI f)).2 ∧ (¬ (f_X3_isSilentWithout T M (nI s) (nI c) (nI f)).1 = 0 → QUIET (CU M s c) f) := by
  obtain ⟨w1, w2, w3, w4⟩ := wb_off (mkm M c) (mkm_lt M c) s hs hb
  rw [f_X3_isSilentWithout, sLet_eq, nI_clamp (show c < 2 ^ 31 by omega), hT c hc, w1, sU_eq, w2]
  have hm : MSK M (sU (sU T 0 c (nI (mkm M c - 2 ^ s))) 0 c (nI (mkm M c))) := fun k hk => by
    by_cases e : k = c
    · subst e; exact sU_eq
    · rw [sU_ne e, sU_ne e]; exact hT k hk
  have hq : MSK (CU M s c) (sU T 0 c (nI (mkm M c - 2 ^ s))) := fun k hk => by
    by_cases e : k = c
    · subst e; rw [sU_eq, cu_mkm_c hs hk hb]
    · rw [sU_ne e, cu_mkm hs hc hk e]; exact hT k hk
  have r4 : M 4 = (CU M s c) 4 := (sU_row (by decide)).symm
  have r5 : M 5 = (CU M s c) 5 := (sU_row (by decide)).symm
  rw [oh_cg r4 r5]
  by_cases q : f_X3_ownersHearing (sU T 0 c (nI (mkm M c - 2 ^ s))) (CU M s c) (nI f) = 0
  · rw [if_pos q, sLet_eq]
    exact ⟨hm, fun _ => (hear_zero (cu_san h s c) hq hf).mp q⟩
  · rw [if_neg q, sLet_eq]
    exact ⟨hm, fun z => absurd rfl z⟩
def CUTS (M : SR) (f : Nat) (r : Int32) : Prop := r = -99 ∨ ∃ s c : Nat, s < 4 ∧ c < 12 ∧ r = nI (100 * s + c) ∧ bt (mkm M c) s ∧ QUIET (CU M s c) f
theorem cut_9 {M : SR} (h : SAN M) {f : Nat} (hf : f < 4) (kb : Int32 → SR → (Int32 × SR)) {s : Nat} (hs : s < 4) (hkb : ∀ T : SR, MSK M T → CUTS M f (kb (nI (s + 1)) T).1) : ∀ (n c : Nat) (T : SR), n + c = 13 → c ≤ 12 → MSK M T → CUTS M f (f_X3_sendToCut_p9 M (nI f) kb n (nI s) (nI c) T).1 := by
  intro n
  induction n with
  | zero => intro c T hn hc; omega
  | succ n ih =>
    intro c T hn hc hT
    rw [f_X3_sendToCut_p9]
    by_cases q12 : (12 : Int32) ≤ nI c
    · rw [if_pos q12, nI_1]; exact hkb T hT
    · have q : c < 12 := lp_ge (x := nI c) rfl (show (12 : Int32) = nI 12 from rfl) (by omega) (by omega) q12
      rw [if_neg q12, nI_1, nI_clamp (show c < 2 ^ 31 by omega), hT c q]
      by_cases d : f_X5_hasBit (nI (mkm M c)) (nI s) = 0
      · rw [if_pos d]; exact ih (c + 1) T (by omega) (by omega) hT
      · rw [if_neg d, sLet_eq]
        have hb : bt (mkm M c) s := by
          by_cases z : bt (mkm M c) s
          · exact z
          · exact absurd ((hb4 _ (mkm_lt M c) s hs).mpr z) d
        obtain ⟨s1, s2⟩ := silent_spec h hT hs q hf hb
        generalize f_X3_isSilentWithout T M (nI s) (nI c) (nI f) = S at s1 s2 ⊢
        by_cases d2 : S.1 = 0
        · rw [if_pos d2]; exact ih (c + 1) _ (by omega) (by omega) s1
        · rw [if_neg d2]
          exact Or.inr ⟨s, c, hs, q, by dsimp only; rw [show (100 : Int32) = nI 100 from rfl, nI_mul, nI_add], hb, s2 d2⟩
theorem cut_2 {M : SR} (h : SAN M) {f : Nat} (hf : f < 4) : ∀ (n s : Nat) (T : SR), n + s = 5 → s ≤ 4 → MSK M T → CUTS M f (f_X3_sendToCut_p2 M (nI f) n (nI s) T).1 := by
  intro n
  induction n with
  | zero => intro s T hn hs; omega
  | succ n ih =>
    intro s T hn hs hT
    rw [f_X3_sendToCut_p2]
    by_cases q4 : (4 : Int32) ≤ nI s
    · rw [if_pos q4]; exact Or.inl rfl
    · have q : s < 4 := lp_ge (x := nI s) rfl (show (4 : Int32) = nI 4 from rfl) (by omega) (by omega) q4
      rw [if_neg q4]
      have e := cut_9 h hf (f_X3_sendToCut_p2 M (nI f) n) q (fun T hT => ih (s + 1) T (by omega) (by omega) hT) 13 0 T (by omega) (by omega) hT
      rw [nI_0] at e
      exact e
theorem cut_spec {M T : SR} (h : SAN M) (hT : MSK M T) {f : Nat} (hf : f < 4) : CUTS M f (f_X3_sendToCut T M (nI f)).1 := by
  rw [f_X3_sendToCut]
  have e := cut_2 h hf 5 0 T (by omega) (by omega) hT
  rw [nI_0] at e
  exact e
/-- a send that is cut was not 0 -/
theorem cut_send {M : SR} {s c : Nat} (hs : s < 4) (hc : c < 12) (hb : bt (mkm M c) s) : ¬ M 3 (12 * s + c) = 0 := fun z => by
  have hg := (mkm_bt M c hs).mp hb
  unfold gp at hg
  rw [f_X4_gainOf, f_X4_gainAt, six s hs c hc, z, Int32.mul_zero] at hg
  by_cases d : f_X5_hasBit (M 4 (nI s).toNatClampNeg) (nI c) = 0
  · rw [if_pos d] at hg; exact hg (by decide)
  · rw [if_neg d] at hg; exact hg (by decide)
