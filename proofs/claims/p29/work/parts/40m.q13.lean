/-! p29, 13: what is looked at depends on now alone; the digest -/
theorem g_count {G H : GR} (e : G 0 = H 0) {p : Int32} (h9 : ¬ p = 9) (h10 : ¬ p = 10) : f_X5_count G p = f_X5_count H p := by
  rw [f_X5_count, f_X5_count, e, if_neg h9, if_neg h10, if_neg h9, if_neg h10]
theorem g_channel {G H : GR} (e : G 0 = H 0) (p q : Int32) : f_X5_channel G p q = f_X5_channel H p q := by
  rw [f_X5_channel, f_X5_channel, e]
theorem g_group {G H : GR} (e : G 0 = H 0) (p q : Int32) : f_X5_group G p q = f_X5_group H p q := by
  rw [f_X5_group, f_X5_group, e]
theorem g_feed {G H : GR} (e : G 0 = H 0) (p q : Int32) : f_X5_feed G p q = f_X5_feed H p q := by
  rw [f_X5_feed, f_X5_feed, e]
theorem g_send {G H : GR} (e : G 0 = H 0) (p q r : Int32) : f_X5_send G p q r = f_X5_send H p q r := by
  rw [f_X5_send, f_X5_send, e]
theorem g_scene {G H : GR} (e : G 0 = H 0) (p q : Int32) : f_X5_scene G p q = f_X5_scene H p q := by
  rw [f_X5_scene, f_X5_scene, e]
theorem g_why {G H : GR} (e : G 0 = H 0) (p : Int32) : f_X5_why G p = f_X5_why H p := by
  rw [f_X5_why, f_X5_why, e]
theorem d_177 {G H : GR} (e : G 0 = H 0) {kb kb' : Int64 → Int32 → Int64} (hk : ∀ (a : Int64) (b : Int32), kb a b = kb' a b) : ∀ (n : Nat) (x : Int64) (y z : Int32), f_L_digest_p177 G kb n x y z = f_L_digest_p177 H kb' n x y z := by
  intro n
  induction n with
  | zero => intro x y z; rfl
  | succ n ih =>
    intro x y z
    rw [f_L_digest_p177, f_L_digest_p177, hk, g_scene e, ih]
theorem d_168 {G H : GR} (e : G 0 = H 0) : ∀ (n : Nat) (x : Int64) (y : Int32), f_L_digest_p168 G n x y = f_L_digest_p168 H n x y := by
  intro n
  induction n with
  | zero => intro x y; rfl
  | succ n ih =>
    intro x y
    rw [f_L_digest_p168, f_L_digest_p168, d_177 e ih]
theorem d_131 {G H : GR} (e : G 0 = H 0) {kb kb' : Int64 → Int32 → Int64} (hk : ∀ (a : Int64) (b : Int32), kb a b = kb' a b) : ∀ (n : Nat) (x : Int64) (y z : Int32), f_L_digest_p131 G kb n x y z = f_L_digest_p131 H kb' n x y z := by
  intro n
  induction n with
  | zero => intro x y z; rfl
  | succ n ih =>
    intro x y z
    rw [f_L_digest_p131, f_L_digest_p131, hk, g_send e, ih]
theorem d_86 {G H : GR} (e : G 0 = H 0) {kb kb' : Int64 → Int32 → Int64} (hk : ∀ (a : Int64) (b : Int32), kb a b = kb' a b) : ∀ (n : Nat) (x : Int64) (y z : Int32), f_L_digest_p86 G kb n x y z = f_L_digest_p86 H kb' n x y z := by
  intro n
  induction n with
  | zero => intro x y z; rfl
  | succ n ih =>
    intro x y z
    rw [f_L_digest_p86, f_L_digest_p86, d_131 e hk, g_group e, g_feed e, ih]
theorem d_78 {G H : GR} (e : G 0 = H 0) : ∀ (n : Nat) (x : Int64) (y : Int32), f_L_digest_p78 G n x y = f_L_digest_p78 H n x y := by
  intro n
  induction n with
  | zero => intro x y; rfl
  | succ n ih =>
    intro x y
    rw [f_L_digest_p78, f_L_digest_p78, d_168 e, d_86 e ih]
theorem d_42 {G H : GR} (e : G 0 = H 0) {kb kb' : Int64 → Int32 → Int64} (hk : ∀ (a : Int64) (b : Int32), kb a b = kb' a b) : ∀ (n : Nat) (x : Int64) (y z : Int32), f_L_digest_p42 G kb n x y z = f_L_digest_p42 H kb' n x y z := by
  intro n
  induction n with
  | zero => intro x y z; rfl
  | succ n ih =>
    intro x y z
    rw [f_L_digest_p42, f_L_digest_p42, hk, g_channel e, ih]
theorem d_33 {G H : GR} (e : G 0 = H 0) : ∀ (n : Nat) (x : Int64) (y : Int32), f_L_digest_p33 G n x y = f_L_digest_p33 H n x y := by
  intro n
  induction n with
  | zero => intro x y; rfl
  | succ n ih =>
    intro x y
    rw [f_L_digest_p33, f_L_digest_p33, d_78 e, d_42 e ih]
theorem d_6 {G H : GR} (e : G 0 = H 0) : ∀ (n j : Nat) (x : Int64), n + j = 10 → f_L_digest_p6 G n x (nI j) = f_L_digest_p6 H n x (nI j) := by
  intro n
  induction n with
  | zero => intro j x hj; rfl
  | succ n ih =>
    intro j x hj
    rw [f_L_digest_p6, f_L_digest_p6, d_33 e, nI_1, ih (j + 1) _ (by omega)]
    by_cases c : (9 : Int32) ≤ nI j
    · rw [if_pos c, if_pos c]
    · have q : j < 9 := lp_ge (x := nI j) rfl (show (9 : Int32) = nI 9 from rfl) (by omega) (by omega) c
      have n9 : ¬ nI j = 9 := fun z => by
        have := (nI_eq (a := j) (b := 9) (by omega) (by omega)).mp z
        omega
      have n10 : ¬ nI j = 10 := fun z => by
        have := (nI_eq (a := j) (b := 10) (by omega) (by omega)).mp z
        omega
      rw [if_neg c, if_neg c, g_count e n9 n10]
/-- the digest depends on now alone -/
theorem dig {G H : GR} (e : G 0 = H 0) : f_L_digest G = f_L_digest H := by
  have h := d_6 e 10 0 7 (by omega)
  rw [nI_0] at h
  rw [f_L_digest, f_L_digest, h]
theorem dig_cmp {G H : GR} (e : G 0 = H 0) : lg_cmp (f_L_digest G) (f_L_digest H) = 0 := (lg_cmp_eq _ _).mpr (dig e)
/-! the law's own numbers -/
theorem and_nI (v : Int32) (m : Nat) (hm : m < 2 ^ 31) : ∃ j : Nat, j ≤ m ∧ v &&& nI m = nI j := by
  refine ⟨(v &&& nI m).toBitVec.toNat, ?_, ?_⟩
  · rw [Int32.toBitVec_and, BitVec.toNat_and]
    have e : (nI m).toBitVec.toNat = m := by
      show (Int32.ofNat m).toBitVec.toNat = m
      rw [Int32.toBitVec_ofNat']
      simp only [BitVec.toNat_ofNat]
      omega
    rw [e]
    exact Nat.and_le_right
  · apply Int32.toBitVec_inj.mp
    show _ = (Int32.ofNat _).toBitVec
    rw [Int32.toBitVec_ofNat']
    simp only [BitVec.ofNat_toNat, BitVec.setWidth_eq]
theorem low_in (v : Int32) {n : Nat} (h0 : 0 < n) (hn : n < 2 ^ 31) : ∃ j : Nat, j < n ∧ f_L_low v (nI n) = nI j := by
  obtain ⟨w, w1, w2⟩ := and_nI v 2147483647 (by omega)
  have e : v &&& 2147483647 = nI w := w2
  rw [f_L_low, e, pk_rem (by omega) h0 hn]
  exact ⟨w % n, Nat.mod_lt w h0, rfl⟩
theorem and3 (v : Int32) : ∃ f : Nat, f < 4 ∧ v &&& 3 = nI f := by
  obtain ⟨j, j1, j2⟩ := and_nI v 3 (by omega)
  exact ⟨j, by omega, j2⟩
/-! looks that write: the routes, the trial; the rest stays -/
def SIM (G H : GR) : Prop := (∀ k : Nat, k ≠ 1 → k ≠ 8 → H k = G k) ∧ SANE (H 1)
theorem sim_rf {G : GR} (h : DESK G) : SIM G G := ⟨fun _ _ _ => rfl, h.1 1 (by omega)⟩
theorem sim_tr {A B C : GR} (h : SIM A B) (g : SIM B C) : SIM A C := ⟨fun k h1 h8 => (g.1 k h1 h8).trans (h.1 k h1 h8), g.2⟩
theorem sim_0 {G H : GR} (h : SIM G H) : H 0 = G 0 := h.1 0 (by decide) (by decide)
theorem sim_9 {G H : GR} (h : SIM G H) : H 9 = G 9 := h.1 9 (by decide) (by decide)
theorem sim_desk {G H : GR} (h : DESK G) (s : SIM G H) : DESK H := by
  obtain ⟨hs, nx, sz, h1, h2, h3, h4⟩ := h
  have e7 : H 7 = G 7 := s.1 7 (by decide) (by decide)
  refine ⟨fun k hk => ?_, nx, sz, h1, h2, by rw [e7]; exact h3, by rw [e7]; exact h4⟩
  by_cases e : k = 1
  · subst e; exact s.2
  · rw [s.1 k e (by omega)]; exact hs k hk
theorem sim_un {A : SR} {G H : GR} (u : UN A G) (s : SIM G H) : UN A H := by
  obtain ⟨nx, sz, h1, h2, h3, h4, h5, h6⟩ := u
  have e7 : H 7 = G 7 := s.1 7 (by decide) (by decide)
  have := Nat.mod_lt (nx + 4) (show 0 < 5 by omega)
  exact ⟨nx, sz, h1, h2, h3, by rw [e7]; exact h4, by rw [e7]; exact h5, by rw [s.1 _ (by omega) (by omega)]; exact h6⟩
theorem sim_8 {G : GR} (h : DESK G) (T : SR) : SIM G (va_up G 8 T) := ⟨fun k _ h8 => vu_ne h8, by rw [vu_ne (by decide)]; exact h.1 1 (by omega)⟩
theorem sim_88 {G : GR} (h : DESK G) (T U : SR) : SIM G (va_up (va_up G 8 T) 8 U) := ⟨fun k _ h8 => by rw [vu_ne h8, vu_ne h8], by rw [vu_ne (by decide), vu_ne (by decide)]; exact h.1 1 (by omega)⟩
theorem b12 : ∀ c : Nat, c < 12 → ¬ f_X5_isBelow (nI c) 12 = 0 := by decide +kernel
theorem b4 : ∀ c : Nat, c < 4 → ¬ f_X5_isBelow (nI c) 4 = 0 := by decide +kernel
theorem path_1 {G : GR} (h : DESK G) {c f : Nat} (hc : c < 12) (hf : f < 4) {i : Int32} (hi : -1 ≤ i) : ∃ T : SR, MSK (G 0) T ∧ (f_X5_path G (nI c) (nI f) i).1 = (f_X3_shortest T (G 0) (nI c) (nI f) i).1 ∧ SIM G (f_X5_path G (nI c) (nI f) i).2 := by
  rw [f_X5_path, if_neg (b12 c hc), if_neg (b4 f hf), if_pos hi, sLet_eq, sLet_eq]
  dsimp only
  rw [vu_eq, vu_ne (show 0 ≠ 8 by decide)]
  exact ⟨f_X3_survey (G 8) (G 0), (survey_eq (G 0) (G 8)).1, rfl, sim_88 h _ _⟩
theorem loud_1 {G : GR} (h : DESK G) {c f : Nat} (hc : c < 12) (hf : f < 4) : (f_X5_loudest G (nI c) (nI f)).1 = (f_X3_greatestGain (G 8) (G 0) (nI c) (nI f)).1 ∧ SIM G (f_X5_loudest G (nI c) (nI f)).2 := by
  rw [f_X5_loudest, if_neg (b12 c hc), if_neg (b4 f hf), sLet_eq]
  dsimp only
  exact ⟨rfl, sim_8 h _⟩
theorem loops_1 {G : GR} (h : DESK G) : ∃ T : SR, MSK (G 0) T ∧ (f_X5_loops G).1 = f_X3_feedsHearingBack T (G 0) ∧ SIM G (f_X5_loops G).2 := by
  rw [f_X5_loops, sLet_eq]
  dsimp only
  rw [vu_eq, vu_ne (show 0 ≠ 8 by decide)]
  exact ⟨f_X3_survey (G 8) (G 0), (survey_eq (G 0) (G 8)).1, rfl, sim_8 h _⟩
theorem hear_1 {G : GR} (h : DESK G) {f : Nat} (hf : f < 4) : ∃ T : SR, MSK (G 0) T ∧ (f_X5_hearers G (nI f)).1 = f_X3_ownersHearing T (G 0) (nI f) ∧ SIM G (f_X5_hearers G (nI f)).2 := by
  rw [f_X5_hearers, if_neg (b4 f hf), sLet_eq]
  dsimp only
  rw [vu_eq, vu_ne (show 0 ≠ 8 by decide)]
  exact ⟨f_X3_survey (G 8) (G 0), (survey_eq (G 0) (G 8)).1, rfl, sim_8 h _⟩
theorem cut_1 {G : GR} (h : DESK G) {f : Nat} (hf : f < 4) : (((f_X5_cut G (nI f)).1 = -2 ∧ QUIET (G 0) f) ∨ (¬ QUIET (G 0) f ∧ CUTS (G 0) f (f_X5_cut G (nI f)).1)) ∧ SIM G (f_X5_cut G (nI f)).2 := by
  have hm : MSK (G 0) (f_X3_survey (G 8) (G 0)) := (survey_eq (G 0) (G 8)).1
  have hs := (h.1 0 (by omega)).1
  have hz := hear_zero hs hm hf
  have hc := cut_spec hs hm hf
  rw [f_X5_cut, if_neg (b4 f hf), sLet_eq]
  rw [vu_eq, vu_ne (show 0 ≠ 8 by decide)]
  generalize f_X3_survey (G 8) (G 0) = T at hz hc ⊢
  by_cases q : f_X3_ownersHearing T (G 0) (nI f) = 0
  · rw [if_pos q]
    exact ⟨Or.inl ⟨rfl, hz.mp q⟩, sim_8 h _⟩
  · rw [if_neg q, sLet_eq]
    exact ⟨Or.inr ⟨fun z => q (hz.mpr z), hc⟩, sim_88 h _ _⟩
theorem out_1 {G : GR} (h : DESK G) {f t : Nat} (hf : f < 4) (ht : t ≤ 100) : (f_X5_outputIn G (nI f) (nI t)).1 = (f_X4_goOn (G 0) (nI t)) 7 f ∧ SIM G (f_X5_outputIn G (nI f) (nI t)).2 := by
  have hw : ¬ f_X5_isWithin (nI t) 0 100 = 0 := by
    rw [f_X5_isWithin, if_neg (nI_pos (by omega)), if_neg (show ¬ (100 : Int32) < nI t from nI_nlt (a := 100) ht (by omega))]
    decide
  rw [f_X5_outputIn, if_neg (b4 f hf), if_neg hw, sLet_eq, sLet_eq]
  dsimp only
  rw [vu_eq, vu_eq, nI_clamp (by omega)]
  refine ⟨rfl, fun k h1 _ => by rw [vu_ne h1, vu_ne h1], ?_⟩
  rw [vu_eq]
  exact go_sane (h.1 0 (by omega)) t
theorem go_0 (M : SR) : f_X4_goOn M 0 = M := by
  rw [f_X4_goOn, show (0 : Int32).toNatClampNeg + 1 = 0 + 1 by decide, f_X4_goOn_p2, if_pos (by decide)]
