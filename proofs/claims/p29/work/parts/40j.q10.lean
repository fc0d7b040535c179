/-! p29, 10: masks of channels and feeds -/
theorem nI_or {j k : Nat} : nI j ||| nI k = nI (j ||| k) := by
  apply Int32.toBitVec_inj.mp
  show (nI j ||| nI k).toBitVec = (Int32.ofNat (j ||| k)).toBitVec
  rw [Int32.toBitVec_or]
  show (Int32.ofNat j).toBitVec ||| (Int32.ofNat k).toBitVec = _
  rw [Int32.toBitVec_ofNat', Int32.toBitVec_ofNat', Int32.toBitVec_ofNat']
  exact (BitVec.ofNat_or ..).symm
theorem sh12 : ∀ f : Nat, f < 12 → (1 : Int32) <<< (nI f &&& 31) = nI (2 ^ f) := by decide +kernel
theorem or_new {m f : Nat} (hf : f < 12) (h : m < 2 ^ f) : nI m ||| (1 <<< (nI f &&& 31)) = nI (m + 2 ^ f) := by
  rw [sh12 f hf, nI_or, Nat.or_comm, ← Nat.mul_one (2 ^ f), ← Nat.two_pow_add_eq_or_of_lt h 1, Nat.add_comm]
/-- a mask of the first n -/
def MK (P : Nat → Prop) (n m : Nat) : Prop := m < 2 ^ n ∧ ∀ g : Nat, g < n → (bt m g ↔ P g)
theorem mk_0 {P : Nat → Prop} : MK P 0 0 := ⟨by decide, fun g hg => by omega⟩
theorem mk_yes {P : Nat → Prop} {n m : Nat} (h : MK P n m) (hp : P n) : MK P (n + 1) (m + 2 ^ n) := by
  obtain ⟨h1, h2⟩ := h
  obtain ⟨p1, p2, p3, p4⟩ := pw_new h1
  refine ⟨p1, fun g hg => ?_⟩
  by_cases e : g = n
  · subst e; exact ⟨fun _ => hp, fun _ => p3⟩
  · unfold bt; rw [p4 g (by omega)]; exact h2 g (by omega)
theorem mk_no {P : Nat → Prop} {n m : Nat} (h : MK P n m) (hp : ¬ P n) : MK P (n + 1) m := by
  obtain ⟨h1, h2⟩ := h
  obtain ⟨p1, p2, p3, p4⟩ := pw_new h1
  refine ⟨by omega, fun g hg => ?_⟩
  by_cases e : g = n
  · subst e; exact ⟨fun z => absurd z p2, fun z => absurd z hp⟩
  · exact h2 g (by omega)
theorem mk_zero {P : Nat → Prop} {n m : Nat} (h : MK P n m) : m = 0 ↔ ∀ g : Nat, g < n → ¬ P g := by
  constructor
  · intro e g hg hp
    have := (h.2 g hg).mpr hp
    rw [e] at this
    unfold bt at this
    rw [Nat.zero_div] at this
    exact absurd this (by decide)
  · intro hn
    have key : ∀ k m : Nat, m < 2 ^ k → (∀ g : Nat, g < k → ¬ bt m g) → m = 0 := by
      intro k
      induction k with
      | zero => intro m hm _; rw [Nat.pow_zero] at hm; omega
      | succ k ih =>
        intro m hm hb
        have h0 := hb k (by omega)
        unfold bt at h0
        have hd : m / 2 ^ k < 2 := Nat.div_lt_of_lt_mul (by rw [Nat.pow_succ] at hm; exact hm)
        have hz : ∀ z : Nat, z < 2 → ¬ z % 2 = 1 → z = 0 := fun z h1 h2 => by omega
        have : m / 2 ^ k = 0 := hz _ hd h0
        exact ih m (Nat.lt_of_div_eq_zero (Nat.two_pow_pos k) this) (fun g hg => hb g (by omega))
    exact key n m h.1 (fun g hg z => hn g hg ((h.2 g hg).mp z))
theorem pow12 {n m : Nat} (hn : n ≤ 12) (h : m < 2 ^ n) : m < 4096 := Nat.lt_of_lt_of_le h (Nat.pow_le_pow_right (by omega) hn)
theorem hearing {M T : SR} (h : SAN M) (hT : ∀ k : Nat, k < 12 → T 0 k = nI (mkm M k)) {f : Nat} (hf : f < 4) : ∀ (n c m : Nat), n + c = 13 → c ≤ 12 → MK (fun k => ¬ f_X5_hasBit (M 4 f) (nI k) = 0 ∧ PT M k f) c m → ∃ m' : Nat, f_X3_ownersHearing_p4 T M (nI f) n (nI m) (nI c) = nI m' ∧ MK (fun k => ¬ f_X5_hasBit (M 4 f) (nI k) = 0 ∧ PT M k f) 12 m' := by
  intro n
  induction n with
  | zero => intro c m hn hc; omega
  | succ n ih =>
    intro c m hn hc hm
    have hp := pow12 hc hm.1
    rw [f_X3_ownersHearing_p4]
    by_cases q12 : (12 : Int32) ≤ nI c
    · have e : c = 12 := by
        have := (nI_leI (a := 12) (b := c) (by omega) (by omega)).mp q12
        omega
      subst e
      rw [if_pos q12]; exact ⟨m, rfl, hm⟩
    · have q : c < 12 := lp_ge (x := nI c) rfl (show (12 : Int32) = nI 12 from rfl) (by omega) (by omega) q12
      rw [if_neg q12, nI_1, nI_clamp (show f < 2 ^ 31 by omega)]
      by_cases d : f_X5_hasBit (M 4 f) (nI c) = 0
      · rw [if_pos d]; exact ih (c + 1) m (by omega) (by omega) (mk_no hm (fun z => z.1 d))
      · rw [if_neg d]
        by_cases d2 : f_X5_hasBit (f_X3_feedsFrom T M (nI c)) (nI f) = 0
        · rw [if_pos d2]; exact ih (c + 1) m (by omega) (by omega) (mk_no hm (fun z => (feeds_bit h hT q hf).mpr z.2 d2))
        · rw [if_neg d2, or_new q hm.1]; exact ih (c + 1) _ (by omega) (by omega) (mk_yes hm ⟨d, (feeds_bit h hT q hf).mp d2⟩)
theorem hear_spec {M T : SR} (h : SAN M) (hT : ∀ k : Nat, k < 12 → T 0 k = nI (mkm M k)) {f : Nat} (hf : f < 4) : ∃ m : Nat, f_X3_ownersHearing T M (nI f) = nI m ∧ MK (fun k => ¬ f_X5_hasBit (M 4 f) (nI k) = 0 ∧ PT M k f) 12 m := by
  have e := hearing h hT hf 13 0 0 (by omega) (by omega) mk_0
  rw [nI_0] at e
  rw [f_X3_ownersHearing]
  exact e
theorem back_loop {M T : SR} (h : SAN M) (hT : ∀ k : Nat, k < 12 → T 0 k = nI (mkm M k)) : ∀ (n f m : Nat), n + f = 5 → f ≤ 4 → MK (fun g => ∃ j : Nat, j < 12 ∧ M 5 g = nI j ∧ PT M j g) f m → ∃ m' : Nat, f_X3_feedsHearingBack_p4 T M n (nI m) (nI f) = nI m' ∧ MK (fun g => ∃ j : Nat, j < 12 ∧ M 5 g = nI j ∧ PT M j g) 4 m' := by
  intro n
  induction n with
  | zero => intro f m hn hf; omega
  | succ n ih =>
    intro f m hn hf hm
    have hp := pow12 (by omega) hm.1
    rw [f_X3_feedsHearingBack_p4]
    by_cases q4 : (4 : Int32) ≤ nI f
    · have e : f = 4 := by
        have := (nI_leI (a := 4) (b := f) (by omega) (by omega)).mp q4
        omega
      subst e
      rw [if_pos q4]; exact ⟨m, rfl, hm⟩
    · have q : f < 4 := lp_ge (x := nI f) rfl (show (4 : Int32) = nI 4 from rfl) (by omega) (by omega) q4
      rw [if_neg q4, nI_1, nI_clamp (show f < 2 ^ 31 by omega)]
      by_cases d : M 5 f < 0
      · rw [if_pos d]
        refine ih (f + 1) m (by omega) (by omega) (mk_no hm ?_)
        rintro ⟨j, j1, j2, -⟩
        rw [j2] at d; exact nI_pos (by omega) d
      · obtain ⟨j, j1, j2, -⟩ := af_eq h q d
        rw [if_neg d, j2]
        by_cases d2 : f_X5_hasBit (f_X3_feedsFrom T M (nI j)) (nI f) = 0
        · rw [if_pos d2]
          refine ih (f + 1) m (by omega) (by omega) (mk_no hm ?_)
          rintro ⟨j', z1, z2, z3⟩
          have : j' = j := (nI_eq (by omega) (by omega)).mp (z2.symm.trans j2)
          subst this
          exact (feeds_bit h hT j1 q).mpr z3 d2
        · rw [if_neg d2, or_new (by omega) hm.1]
          exact ih (f + 1) _ (by omega) (by omega) (mk_yes hm ⟨j, j1, j2, (feeds_bit h hT j1 q).mp d2⟩)
theorem back_spec {M T : SR} (h : SAN M) (hT : ∀ k : Nat, k < 12 → T 0 k = nI (mkm M k)) : ∃ m : Nat, f_X3_feedsHearingBack T M = nI m ∧ MK (fun g => ∃ j : Nat, j < 12 ∧ M 5 g = nI j ∧ PT M j g) 4 m := by
  have e := back_loop h hT 5 0 0 (by omega) (by omega) mk_0
  rw [nI_0] at e
  rw [f_X3_feedsHearingBack]
  exact e
theorem reach_loop {M : SR} {f : Nat} (hf : f < 4) : ∀ (n c m : Nat), n + c = 13 → c ≤ 12 → MK (fun k => gp M f k) c m → ∃ m' : Nat, f_X4_channelsReaching_p4 M (nI f) n (nI m) (nI c) = nI m' ∧ MK (fun k => gp M f k) 12 m' := by
  intro n
  induction n with
  | zero => intro c m hn hc; omega
  | succ n ih =>
    intro c m hn hc hm
    have hp := pow12 hc hm.1
    rw [f_X4_channelsReaching_p4]
    by_cases q12 : (12 : Int32) ≤ nI c
    · have e : c = 12 := by
        have := (nI_leI (a := 12) (b := c) (by omega) (by omega)).mp q12
        omega
      subst e
      rw [if_pos q12]; exact ⟨m, rfl, hm⟩
    · have q : c < 12 := lp_ge (x := nI c) rfl (show (12 : Int32) = nI 12 from rfl) (by omega) (by omega) q12
      rw [if_neg q12, nI_1]
      by_cases d : f_X4_gainOf M (nI f) (nI c) ≤ 0
      · rw [if_pos d]; exact ih (c + 1) m (by omega) (by omega) (mk_no hm (fun z => z d))
      · rw [if_neg d, or_new q hm.1]; exact ih (c + 1) _ (by omega) (by omega) (mk_yes hm d)
theorem reach_spec {M : SR} {f : Nat} (hf : f < 4) : ∃ m : Nat, f_X4_channelsReaching M (nI f) = nI m ∧ MK (fun k => gp M f k) 12 m := by
  have e := reach_loop (M := M) hf 13 0 0 (by omega) (by omega) mk_0
  rw [nI_0] at e
  rw [f_X4_channelsReaching]
  exact e
theorem aud_loop {M : SR} : ∀ (n c m : Nat), n + c = 13 → c ≤ 12 → MK (fun k => ¬ f_X4_levelOf M (nI k) ≤ 0) c m → ∃ m' : Nat, f_X4_audibleChannels_p4 M n (nI m) (nI c) = nI m' ∧ MK (fun k => ¬ f_X4_levelOf M (nI k) ≤ 0) 12 m' := by
  intro n
  induction n with
  | zero => intro c m hn hc; omega
  | succ n ih =>
    intro c m hn hc hm
    have hp := pow12 hc hm.1
    rw [f_X4_audibleChannels_p4]
    by_cases q12 : (12 : Int32) ≤ nI c
    · have e : c = 12 := by
        have := (nI_leI (a := 12) (b := c) (by omega) (by omega)).mp q12
        omega
      subst e
      rw [if_pos q12]; exact ⟨m, rfl, hm⟩
    · have q : c < 12 := lp_ge (x := nI c) rfl (show (12 : Int32) = nI 12 from rfl) (by omega) (by omega) q12
      rw [if_neg q12, nI_1]
      by_cases d : f_X4_levelOf M (nI c) ≤ 0
      · rw [if_pos d]; exact ih (c + 1) m (by omega) (by omega) (mk_no hm (fun z => z d))
      · rw [if_neg d, or_new q hm.1]; exact ih (c + 1) _ (by omega) (by omega) (mk_yes hm d)
theorem aud_spec (M : SR) : ∃ m : Nat, f_X4_audibleChannels M = nI m ∧ MK (fun k => ¬ f_X4_levelOf M (nI k) ≤ 0) 12 m := by
  have e := aud_loop (M := M) 13 0 0 (by omega) (by omega) mk_0
  rw [nI_0] at e
  rw [f_X4_audibleChannels]
  exact e
