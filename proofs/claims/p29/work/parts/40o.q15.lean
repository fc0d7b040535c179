/-! p29, 15: isRight -/
theorem hb_iff (x p : Int32) : ((x >>> (p &&& 31)) &&& 1) = 1 ↔ ¬ f_X5_hasBit x p = 0 := by
  rw [f_X5_hasBit]
  by_cases c : ((x >>> (p &&& 31)) &&& 1) = 1
  · rw [if_pos c]; exact ⟨fun _ => by decide, fun _ => c⟩
  · rw [if_neg c]; exact ⟨fun z => absurd z c, fun z => absurd rfl z⟩
theorem bit12 : ∀ c : Nat, c < 12 → ∀ a : Nat, a < 64 → ∀ b : Nat, b < 64 → (((nI (64 * a + b) >>> (nI c &&& 31)) &&& 1) = 1 ↔ (64 * a + b) / 2 ^ c % 2 = 1) := by decide +kernel
theorem bt12 {m c : Nat} (hm : m < 4096) (hc : c < 12) : ((nI m >>> (nI c &&& 31)) &&& 1) = 1 ↔ bt m c := by
  have g := bit12 c hc (m / 64) (by omega) (m % 64) (by omega)
  rw [show 64 * (m / 64) + m % 64 = m by omega] at g
  exact g
/-! what is looked at, in words of now -/
theorem v_feed0 {G : GR} {f : Nat} (hf : f < 4) : f_X5_feed G (nI f) 0 = (G 0) 4 f := by
  rw [f_X5_feed, if_neg (b4 f hf), if_pos rfl, nI_clamp (by omega)]
theorem v_feed1 {G : GR} {f : Nat} (hf : f < 4) : f_X5_feed G (nI f) 1 = (if 0 ≤ ((G 0) 5 f) then (G 0) 5 f else (-99)) := by
  rw [f_X5_feed, if_neg (b4 f hf), if_neg (by decide), if_pos rfl, nI_clamp (by omega)]
theorem v_feed2 {G : GR} {f : Nat} (hf : f < 4) : f_X5_feed G (nI f) 2 = (G 0) 7 f := by
  rw [f_X5_feed, if_neg (b4 f hf), if_neg (by decide), if_neg (by decide), if_pos rfl, nI_clamp (by omega)]
theorem v_feed3 {G : GR} {f : Nat} (hf : f < 4) : f_X5_feed G (nI f) 3 = f_X4_channelsReaching (G 0) (nI f) := by
  rw [f_X5_feed, if_neg (b4 f hf), if_neg (by decide), if_neg (by decide), if_neg (by decide), if_pos rfl]
theorem v_send1 {G : GR} {f c : Nat} (hf : f < 4) (hc : c < 12) : f_X5_send G (nI f) (nI c) 1 = f_X4_gainOf (G 0) (nI f) (nI c) := by
  rw [f_X5_send, if_neg (b4 f hf), if_neg (b12 c hc), if_neg (by decide), if_pos rfl]
theorem b5 : ¬ f_X5_isBelow 1 5 = 0 ∧ ¬ f_X5_isBelow 2 5 = 0 ∧ f_X5_isBelow 5 5 = 0 ∧ f_X5_isBelow 6 5 = 0 ∧ f_X5_isBelow 8 5 = 0 := by decide +kernel
theorem v_ch1 {G : GR} {c : Nat} (hc : c < 12) : f_X5_channel G (nI c) 1 = (G 0) 1 c := by
  rw [f_X5_channel, if_neg (b12 c hc), if_neg b5.1, f_X4_channelProperty, if_neg (by decide), if_pos rfl, nI_clamp (by omega)]
theorem v_ch2 {G : GR} {c : Nat} (hc : c < 12) : f_X5_channel G (nI c) 2 = (if (f_X5_hasBit ((G 0) 10 0) (nI c)) = 0 then 0 else 1) := by
  rw [f_X5_channel, if_neg (b12 c hc), if_neg b5.2.1, f_X4_channelProperty, if_neg (by decide), if_neg (by decide), if_pos rfl]
theorem v_ch5 {G : GR} {c : Nat} (hc : c < 12) : f_X5_channel G (nI c) 5 = f_X4_levelOf (G 0) (nI c) := by
  rw [f_X5_channel, if_neg (b12 c hc), if_pos b5.2.2.1, if_pos rfl]
theorem v_ch6 {G : GR} {c : Nat} (hc : c < 12) : f_X5_channel G (nI c) 6 = (G 0) 6 c := by
  rw [f_X5_channel, if_neg (b12 c hc), if_pos b5.2.2.2.1, if_neg (by decide), if_pos rfl, nI_clamp (by omega)]
theorem v_ch8 {G : GR} {c : Nat} (hc : c < 12) : f_X5_channel G (nI c) 8 = f_X4_feedBackInto (G 0) (nI c) := by
  rw [f_X5_channel, if_neg (b12 c hc), if_pos b5.2.2.2.2, if_neg (by decide), if_neg (by decide), if_neg (by decide), if_pos rfl]
theorem v_c1 {G : GR} : f_X5_count G 1 = (G 0) 10 4 := by
  rw [f_X5_count, if_neg (by decide), if_pos rfl]
theorem v_c2 {G : GR} : f_X5_count G 2 = (G 0) 10 5 := by
  rw [f_X5_count, if_neg (by decide), if_neg (by decide), if_pos rfl]
theorem v_c4 {G : GR} : f_X5_count G 4 = (if (f_X0_isGoingOn (G 0)) = 0 then (-99) else (G 0) 11 1) := by
  rw [f_X5_count, if_neg (by decide), if_neg (by decide), if_neg (by decide), if_neg (by decide), if_pos rfl]
theorem v_c5 {G : GR} : f_X5_count G 5 = (if (f_X0_isGoingOn (G 0)) = 0 then (-99) else (G 0) 11 2) := by
  rw [f_X5_count, if_neg (by decide), if_neg (by decide), if_neg (by decide), if_neg (by decide), if_neg (by decide), if_pos rfl]
theorem v_c7 {G : GR} : f_X5_count G 7 = (G 0) 10 2 := by
  rw [f_X5_count, if_neg (by decide), if_neg (by decide), if_neg (by decide), if_neg (by decide), if_neg (by decide), if_neg (by decide), if_neg (by decide), if_pos rfl]
theorem v_c8 {G : GR} : f_X5_count G 8 = f_X4_audibleChannels (G 0) := by
  rw [f_X5_count, if_neg (by decide), if_neg (by decide), if_neg (by decide), if_neg (by decide), if_neg (by decide), if_neg (by decide), if_neg (by decide), if_neg (by decide), if_pos rfl]
/-! the checks of a channel -/
theorem r_36 {kb : Int32 → Int32 → GR → (Int32 × GR)} {c l : Nat} {W s0 s1 : Int32} {G : GR} (hl : l < 2 ^ 31) (h1 : ¬ f_X5_channel G (nI c) 1 < nI l) (w0 : W = 0 ↔ 0 < l) (w1 : W = 1 ↔ f_X5_channel G (nI c) 2 = 1) (w3 : W = 3 → f_X5_channel G (nI c) 1 = 0) (w2 : W = 2 → ¬ f_X5_count G 7 = 0) (hb : f_X5_channel G (nI c) 8 < 0 ∨ f_X5_feed G (f_X5_channel G (nI c) 8) 1 = nI c) (hs : ¬ f_X5_channel G (nI c) 6 < 0) (hs2 : f_X5_channel G (nI c) 6 ≤ 9999) : f_L_isRight_p36 kb (nI c) (nI l) W s0 s1 G = f_L_isRight_p186 kb 5 (s1 ||| s0) (nI c) (nI l) 0 G := by
  have t142 : ∀ x1 : Int32, f_L_isRight_p142 kb x1 (nI c) (nI l) (f_X5_channel G (nI c) 8) G = f_L_isRight_p186 kb 5 x1 (nI c) (nI l) 0 G := fun x1 => by
    have t158 : f_L_isRight_p158 kb x1 (nI c) (nI l) G = f_L_isRight_p186 kb 5 x1 (nI c) (nI l) 0 G := by
      rw [f_L_isRight_p158, if_neg hs, if_pos hs2]
    rw [f_L_isRight_p142]
    by_cases q : f_X5_channel G (nI c) 8 < 0
    · rw [if_pos q, t158]
    · rw [if_neg q, if_pos (hb.resolve_left q), t158]
  have t127 : ∀ x1 : Int32, f_L_isRight_p127 kb x1 (nI c) (nI l) W (f_X5_channel G (nI c) 8) G = f_L_isRight_p186 kb 5 x1 (nI c) (nI l) 0 G := fun x1 => by
    rw [f_L_isRight_p127]
    by_cases q : W = 2
    · rw [if_pos q, if_neg (w2 q), t142]
    · rw [if_neg q, t142]
  have t109 : ∀ x1 a : Int32, f_L_isRight_p109 kb x1 (nI c) (nI l) W (f_X5_channel G (nI c) 8) a a G = f_L_isRight_p186 kb 5 x1 (nI c) (nI l) 0 G := fun x1 a => by
    rw [f_L_isRight_p109, if_pos rfl]
    by_cases q : W = 3
    · rw [if_pos q, if_pos (w3 q), t127]
    · rw [if_neg q, t127]
  have t80 : ∀ x1 a : Int32, f_L_isRight_p80 kb x1 (nI c) (nI l) W (f_X5_channel G (nI c) 8) a a G = f_L_isRight_p186 kb 5 x1 (nI c) (nI l) 0 G := fun x1 a => by
    rw [f_L_isRight_p80, if_pos rfl]
    by_cases q : W = 1
    · rw [if_pos q, f_L_isRight_p94, if_pos (w1.mp q), t109]
    · rw [if_neg q, f_L_isRight_p94, if_neg (fun z => q (w1.mpr z)), t109]
  rw [f_L_isRight_p36, if_neg (nI_pos hl), if_neg h1]
  by_cases q : W = 0
  · rw [if_pos q, f_L_isRight_p71, if_neg (nI_nle (w0.mp q) hl), t80]
  · have hz : l = 0 := by
      rcases Nat.eq_zero_or_pos l with e | e
      · exact e
      · exact absurd (w0.mpr e) q
    rw [if_neg q, f_L_isRight_p71, if_pos (show nI l ≤ 0 by rw [hz]; decide), t80]
/-- why, and the level -/
theorem r_ch {kb : Int32 → Int32 → GR → (Int32 × GR)} {G : GR} (h : DESK G) {c : Nat} (hc : c < 12) (s0 s1 : Int32) : ∃ l : Nat, l ≤ 100 ∧ f_X4_levelOf (G 0) (nI c) = nI l ∧ f_L_isRight_p36 kb (nI c) (f_X4_levelOf (G 0) (nI c)) (f_X5_why G (nI c)) s0 s1 G = f_L_isRight_p186 kb 5 (s1 ||| s0) (nI c) (nI l) 0 G := by
  have hs := (h.1 0 (by omega)).1
  obtain ⟨s, l, a1, a2, a3, a4⟩ := lev (s_1 hs) hc
  refine ⟨l, by omega, a4, ?_⟩
  obtain ⟨g, g1, g2⟩ := s_6 hs c hc
  have hsig : ¬ f_X5_channel G (nI c) 6 < 0 ∧ f_X5_channel G (nI c) 6 ≤ 9999 := by
    rw [v_ch6 hc, g2]
    exact ⟨nI_pos (by omega), nI_le (b := 9999) g1 (by omega)⟩
  have hback : f_X5_channel G (nI c) 8 < 0 ∨ f_X5_feed G (f_X5_channel G (nI c) 8) 1 = nI c := by
    rw [v_ch8 hc]
    rcases fb_spec (G 0) (p := nI c) (nI_pos' (by omega)) with ⟨e, -⟩ | ⟨i, i1, i2, i3⟩
    · left; rw [e]; decide
    · right; rw [i2, v_feed1 i1, i3, if_pos (nI_pos' (by omega))]
  have hfd : ¬ f_X5_channel G (nI c) 1 < nI l := by
    rw [v_ch1 hc, a3]
    exact nI_nlt a2 (by omega)
  have hwhy : f_X5_why G (nI c) = (if nI l ≤ 0 then (if (f_X5_hasBit ((G 0) 10 0) (nI c)) = 0 then (if (f_X4_isSoloedAway (G 0) (nI c)) = 0 then (if ((G 0) 1 c) = 0 then 3 else 4) else 2) else 1) else 0) := by
    rw [f_X5_why, if_neg (b12 c hc), a4, nI_clamp (by omega)]
  have hmute : f_X5_channel G (nI c) 2 = 1 ↔ ¬ f_X5_hasBit ((G 0) 10 0) (nI c) = 0 := by
    rw [v_ch2 hc]
    by_cases q : f_X5_hasBit ((G 0) 10 0) (nI c) = 0
    · rw [if_pos q]; exact ⟨fun z => absurd z (by decide), fun z => absurd q z⟩
    · rw [if_neg q]; exact ⟨fun _ => q, fun _ => rfl⟩
  have hlev0 : ¬ f_X5_hasBit ((G 0) 10 0) (nI c) = 0 → l = 0 := fun q => by
    rw [f_X4_levelOf, if_neg q] at a4
    exact ((nI_eq (a := l) (b := 0) (by omega) (by omega)).mp (a4.symm.trans nI_0.symm))
  rw [a4]
  have key : ∀ W : Int32, f_X5_why G (nI c) = W → (W = 0 ↔ 0 < l) → (W = 1 ↔ f_X5_channel G (nI c) 2 = 1) → (W = 3 → f_X5_channel G (nI c) 1 = 0) → (W = 2 → ¬ f_X5_count G 7 = 0) → f_L_isRight_p36 kb (nI c) (nI l) (f_X5_why G (nI c)) s0 s1 G = f_L_isRight_p186 kb 5 (s1 ||| s0) (nI c) (nI l) 0 G := fun W e w0 w1 w3 w2 => by
    rw [e]
    exact r_36 (by omega) hfd w0 w1 w3 w2 hback hsig.1 hsig.2
  by_cases d : l = 0
  · have dl : nI l ≤ 0 := by rw [d]; decide
    rw [if_pos dl] at hwhy
    by_cases m : f_X5_hasBit ((G 0) 10 0) (nI c) = 0
    · rw [if_pos m] at hwhy
      have nm : ¬ f_X5_channel G (nI c) 2 = 1 := fun z => hmute.mp z m
      by_cases so : f_X4_isSoloedAway (G 0) (nI c) = 0
      · rw [if_pos so] at hwhy
        by_cases fd : (G 0) 1 c = 0
        · rw [if_pos fd] at hwhy
          exact key 3 hwhy ⟨fun z => absurd z (by decide), fun z => absurd z (by omega)⟩ ⟨fun z => absurd z (by decide), fun z => absurd z nm⟩ (fun _ => by rw [v_ch1 hc]; exact fd) (fun z => absurd z (by decide))
        · rw [if_neg fd] at hwhy
          exact key 4 hwhy ⟨fun z => absurd z (by decide), fun z => absurd z (by omega)⟩ ⟨fun z => absurd z (by decide), fun z => absurd z nm⟩ (fun z => absurd z (by decide)) (fun z => absurd z (by decide))
      · rw [if_neg so] at hwhy
        refine key 2 hwhy ⟨fun z => absurd z (by decide), fun z => absurd z (by omega)⟩ ⟨fun z => absurd z (by decide), fun z => absurd z nm⟩ (fun z => absurd z (by decide)) (fun _ => ?_)
        rw [v_c7]
        intro z
        exact so (by rw [f_X4_isSoloedAway]; exact if_pos z)
    · rw [if_neg m] at hwhy
      exact key 1 hwhy ⟨fun z => absurd z (by decide), fun z => absurd z (by omega)⟩ ⟨fun _ => hmute.mpr m, fun _ => rfl⟩ (fun z => absurd z (by decide)) (fun z => absurd z (by decide))
  · rw [if_neg (nI_nle (show 0 < l by omega) (by omega))] at hwhy
    exact key 0 hwhy ⟨fun _ => by omega, fun _ => rfl⟩ ⟨fun z => absurd z (by decide), fun z => absurd (hlev0 (hmute.mp z)) d⟩ (fun z => absurd z (by decide)) (fun z => absurd z (by decide))
/-! the checks of a channel and a feed -/
theorem r_241 {kb4 : Int32 → Int32 → GR → (Int32 × GR)} {kb186 : Int32 → Int32 → Int32 → Int32 → GR → (Int32 × GR)} {x1 : Int32} {c f l g : Nat} (hl : l < 2 ^ 31) {x8 x9 s0 : Int32} {G : GR} {Y : Int32 × GR} (a1 : g ≤ l) (a2 : ¬ s0 = 0 → g = 0) (a3 : (((f_X5_feed G (nI f) 3) >>> ((nI c) &&& 31)) &&& 1) = 1 ↔ 0 < g) (a4 : x8 = 1 ↔ 0 < g) (a5 : x8 ≤ 0 ↔ x9 < 0) (a6 : ¬ nI l < x9) (a7 : 0 < g → nI g ≤ x9) (a8 : f_L_isRight_p359 kb4 kb186 x1 (nI c) (nI l) (nI f) x8 s0 G = Y) : f_L_isRight_p241 kb4 kb186 x1 (nI c) (nI l) (nI f) (nI g) x8 x9 s0 G = Y := by
  have z0 : ¬ 0 < g → nI g ≤ 0 := fun z => by
    rw [show g = 0 by omega]; decide
  have z1 : 0 < g → ¬ nI g ≤ 0 := fun z => nI_nle z (by omega)
  have t336 : ∀ a : Int32, f_L_isRight_p336 kb4 kb186 x1 (nI c) (nI l) (nI f) (nI g) x8 x9 s0 a a G = Y := fun a => by
    rw [f_L_isRight_p336, if_pos rfl, if_neg a6]
    by_cases q : nI g ≤ x9
    · rw [if_pos q]; exact a8
    · rw [if_neg q, if_pos (z0 (fun w => q (a7 w)))]; exact a8
  have t313 : ∀ a : Int32, f_L_isRight_p313 kb4 kb186 x1 (nI c) (nI l) (nI f) (nI g) x8 x9 s0 a a G = Y := fun a => by
    rw [f_L_isRight_p313, if_pos rfl]
    by_cases q : x8 ≤ 0
    · rw [if_pos q, f_L_isRight_p326, if_pos (a5.mp q)]; exact t336 0
    · rw [if_neg q, f_L_isRight_p326, if_neg (fun w => q (a5.mpr w))]; exact t336 1
  have t289 : ∀ a : Int32, f_L_isRight_p289 kb4 kb186 x1 (nI c) (nI l) (nI f) (nI g) x8 x9 s0 a a G = Y := fun a => by
    rw [f_L_isRight_p289, if_pos rfl]
    by_cases q : x8 = 1
    · rw [if_pos q, f_L_isRight_p303, if_neg (z1 (a4.mp q))]; exact t313 1
    · rw [if_neg q, f_L_isRight_p303, if_pos (z0 (fun w => q (a4.mpr w)))]; exact t313 0
  have t259 : f_L_isRight_p259 kb4 kb186 x1 (nI c) (nI l) (nI f) (nI g) x8 x9 s0 G = Y := by
    rw [f_L_isRight_p259]
    by_cases q : (((f_X5_feed G (nI f) 3) >>> ((nI c) &&& 31)) &&& 1) = 1
    · rw [if_pos q, f_L_isRight_p279, if_neg (z1 (a3.mp q))]; exact t289 1
    · rw [if_neg q, f_L_isRight_p279, if_pos (z0 (fun w => q (a3.mpr w)))]; exact t289 0
  rw [f_L_isRight_p241, if_neg (nI_nlt a1 hl)]
  by_cases q : s0 = 0
  · rw [if_pos q]; exact t259
  · rw [if_neg q, if_pos (show nI g = 0 by rw [a2 q]; decide)]; exact t259
/-- who hears, as a mask -/
theorem hear_m {G : GR} (h : DESK G) {f : Nat} (hf : f < 4) : ∃ m : Nat, m < 4096 ∧ (f_X5_hearers G (nI f)).1 = nI m ∧ SIM G (f_X5_hearers G (nI f)).2 ∧ (∀ k : Nat, k < 12 → (bt m k ↔ (¬ f_X5_hasBit ((G 0) 4 f) (nI k) = 0 ∧ PT (G 0) k f))) ∧ (m = 0 ↔ QUIET (G 0) f) := by
  obtain ⟨T, t1, t2, t3⟩ := hear_1 h hf
  obtain ⟨m, m1, m2⟩ := hear_spec (h.1 0 (by omega)).1 t1 hf
  exact ⟨m, pow12 (Nat.le_refl 12) m2.1, t2.trans m1, t3, m2.2, mk_zero m2⟩
theorem r_423 {kb4 : Int32 → Int32 → GR → (Int32 × GR)} {kb186 : Int32 → Int32 → Int32 → Int32 → GR → (Int32 × GR)} {x1 : Int32} {c f l : Nat} {G : GR} (h : DESK G) (hc : c < 12) (hf : f < 4) {x8 s0 : Int32} (own : ¬ s0 = 0 ↔ ¬ f_X5_hasBit ((G 0) 4 f) (nI c) = 0) (hp : ¬ x8 ≤ 0 ↔ PT (G 0) c f) : ∃ G' : GR, SIM G G' ∧ f_L_isRight_p423 kb4 kb186 x1 (nI c) (nI l) (nI f) x8 s0 G = kb186 x1 (nI c) (nI l) (nI (f + 1)) G' := by
  obtain ⟨m, m1, m2, m3, m4, -⟩ := hear_m h hf
  refine ⟨_, m3, ?_⟩
  have b := (bt12 m1 hc).trans (m4 c hc)
  have t457 : ∀ (a : Int32) (H : GR), f_L_isRight_p457 kb4 kb186 x1 (nI c) (nI l) (nI f) a a H = kb186 x1 (nI c) (nI l) (nI (f + 1)) H := fun a H => by
    rw [f_L_isRight_p457, if_pos rfl, nI_1]
  rw [f_L_isRight_p423, sLet_eq, m2]
  generalize (f_X5_hearers G (nI f)).2 = H
  by_cases q : ((nI m >>> (nI c &&& 31)) &&& 1) = 1
  · obtain ⟨q1, q2⟩ := b.mp q
    rw [if_pos q, f_L_isRight_p442, if_neg (own.mpr q1), if_neg (hp.mpr q2)]
    exact t457 1 H
  · rw [if_neg q, f_L_isRight_p442]
    by_cases q1 : s0 = 0
    · rw [if_pos q1, f_L_isRight_p456]; exact t457 0 H
    · have q2 : x8 ≤ 0 := by
        by_cases z : x8 ≤ 0
        · exact z
        · exact absurd (b.mpr ⟨own.mp q1, hp.mp z⟩) q
      rw [if_neg q1, if_pos q2, f_L_isRight_p456]; exact t457 0 H
theorem reach_bt {G : GR} {f e : Nat} (hf : f < 4) (he : e < 12) : (((f_X5_feed G (nI f) 3) >>> ((nI e) &&& 31)) &&& 1) = 1 ↔ gp (G 0) f e := by
  obtain ⟨m, m1, m2⟩ := reach_spec (M := G 0) hf
  rw [v_feed3 hf, m1]
  exact (bt12 (pow12 (Nat.le_refl 12) m2.1) he).trans (m2.2 e he)
theorem r_359 {kb4 : Int32 → Int32 → GR → (Int32 × GR)} {kb186 : Int32 → Int32 → Int32 → Int32 → GR → (Int32 × GR)} {x1 : Int32} {c f l x : Nat} {G : GR} (h : DESK G) (hc : c < 12) (hf : f < 4) (x2 : x ≤ 4) (x3 : DS (Af (G 0)) (mkm (G 0) c) f 4 x) {s0 : Int32} (own : ¬ s0 = 0 ↔ ¬ f_X5_hasBit ((G 0) 4 f) (nI c) = 0) : ∃ G' : GR, SIM G G' ∧ f_L_isRight_p359 kb4 kb186 x1 (nI c) (nI l) (nI f) (if x = 0 then -99 else nI x) s0 G = kb186 x1 (nI c) (nI l) (nI (f + 1)) G' := by
  have hpt := ds_pt x3
  rw [f_L_isRight_p359]
  by_cases q : x = 0
  · rw [if_pos q, if_pos (show (-99 : Int32) ≤ 0 by decide)]
    exact r_423 h hc hf own ⟨fun z => absurd (by decide) z, fun z => absurd q (hpt.mpr z)⟩
  · have hx : ¬ nI x ≤ 0 := nI_nle (by omega) (by omega)
    have hx1 : x - 1 + 1 = x := by omega
    have hpr : nI x - 1 = nI (x - 1) := by
      have z := nI_pred (x - 1)
      rw [hx1] at z
      exact z
    rw [if_neg q, if_neg hx, if_neg (show ¬ (4 : Int32) < nI x from nI_nlt (a := 4) x2 (by omega)), sLet_eq]
    have hs : ∀ H : GR, SIM G H → SAN (H 0) := fun H z => by rw [sim_0 z]; exact (h.1 0 (by omega)).1
    obtain ⟨T1, p1, p2, p3⟩ := path_1 h hc hf (i := 0) (by decide)
    obtain ⟨-, r1⟩ := path_spec (hs G (sim_rf h)) hc hf p1 x2 x3
    rw [if_pos (p2.trans (r1 q).1), sLet_eq]
    generalize (f_X5_path G (nI c) (nI f) 0).2 = G1 at p3 ⊢
    have d1 := sim_desk h p3
    have e1 := sim_0 p3
    obtain ⟨T2, p4, p5, p6⟩ := path_1 d1 hc hf (i := nI x) (Int32.le_trans (by decide) (nI_pos' (show x < 2 ^ 31 by omega)))
    rw [e1] at p4 p5
    obtain ⟨-, r2⟩ := path_spec (hs G (sim_rf h)) hc hf p4 x2 x3
    rw [if_pos (p5.trans (r2 q).2.1), sLet_eq]
    generalize (f_X5_path G1 (nI c) (nI f) (nI x)).2 = G2 at p6 ⊢
    have s2 := sim_tr p3 p6
    have d2 := sim_desk h s2
    have e2 := sim_0 s2
    rw [hpr]
    obtain ⟨T3, p7, p8, p9⟩ := path_1 d2 hc hf (i := nI (x - 1)) (Int32.le_trans (by decide) (nI_pos' (show x - 1 < 2 ^ 31 by omega)))
    rw [e2] at p7 p8
    obtain ⟨-, r3⟩ := path_spec (hs G (sim_rf h)) hc hf p7 x2 x3
    obtain ⟨e, he, g1, g2⟩ := (r3 q).2.2
    rw [p8.trans g1]
    generalize (f_X5_path G2 (nI c) (nI f) (nI (x - 1))).2 = G3 at p9 ⊢
    have hr := (reach_bt (G := G2) hf he).mpr (by rw [e2]; exact (mkm_bt (G 0) e hf).mp g2)
    rw [if_pos hr]
    have s3 := sim_tr s2 p9
    have e3 := sim_0 s3
    obtain ⟨G', w1, w2⟩ := r_423 (kb4 := kb4) (kb186 := kb186) (x1 := x1) (l := l) (sim_desk h s3) hc hf (x8 := nI x) (s0 := s0) (by rw [e3]; exact own) (by rw [e3]; exact ⟨fun _ => hpt.mp q, fun _ => hx⟩)
    exact ⟨G', sim_tr s3 w1, w2⟩
theorem r_186 {kb4 : Int32 → Int32 → GR → (Int32 × GR)} {n : Nat} {x1 : Int32} {c f l : Nat} {G : GR} (h : DESK G) (hc : c < 12) (hf : f < 4) (hl : f_X4_levelOf (G 0) (nI c) = nI l) (hl2 : l ≤ 100) : ∃ G' : GR, SIM G G' ∧ f_L_isRight_p186 kb4 (n + 1) x1 (nI c) (nI l) (nI f) G = f_L_isRight_p186 kb4 n x1 (nI c) (nI l) (nI (f + 1)) G' := by
  have hs := (h.1 0 (by omega)).1
  obtain ⟨x, x2, x3⟩ := ds_ex hs hc hf
  obtain ⟨T, p1, p2, p3⟩ := path_1 h hc hf (i := -1) (by decide)
  obtain ⟨r1, -⟩ := path_spec hs hc hf p1 x2 x3
  have e8 := p2.trans r1
  rw [f_L_isRight_p186, if_neg (show ¬ (4 : Int32) ≤ nI f from nI_ge (b := 4) hf (by omega)), sLet_eq, sLet_eq, e8, v_send1 hf hc]
  generalize (f_X5_path G (nI c) (nI f) (-1)).2 = G1 at p3 ⊢
  have d1 := sim_desk h p3
  have e1 := sim_0 p3
  obtain ⟨q2, q3⟩ := loud_1 d1 hc hf
  obtain ⟨g, l', b, g1, g2, g3, g4, g5⟩ := loud_spec (M := G 0) (T := G1 8) hs hc hf
  rw [e1] at q2
  have el : l' = l := (nI_eq (by omega) (by omega)).mp (g2.symm.trans hl)
  subst el
  rw [g1]
  have s2 := sim_tr p3 q3
  generalize (f_X5_loudest G1 (nI c) (nI f)).2 = G2 at q3 s2 ⊢
  generalize (f_X5_loudest G1 (nI c) (nI f)).1 = x9 at q2 ⊢
  have d2 := sim_desk h s2
  have e2 := sim_0 s2
  have hpt := ds_pt x3
  have hg : gp (G 0) f c ↔ 0 < g := by
    unfold gp
    rw [g1]
    constructor
    · intro z
      rcases Nat.eq_zero_or_pos g with e | e
      · subst e; exact absurd (by decide) z
      · exact e
    · intro z; exact nI_nle z (by omega)
  have own0 : ¬ f_X5_hasBit ((G 0) 4 f) (nI c) = 0 → g = 0 := fun z => by
    rw [f_X4_gainOf, f_X4_gainAt, nI_clamp (show f < 2 ^ 31 by omega), if_neg z] at g1
    exact (nI_eq (a := g) (b := 0) (by omega) (by omega)).mp (g1.symm.trans nI_0.symm)
  have a3 : (((f_X5_feed G2 (nI f) 3) >>> ((nI c) &&& 31)) &&& 1) = 1 ↔ 0 < g := (reach_bt (G := G2) hf hc).trans (by rw [e2]; exact hg)
  have a4 : (if x = 0 then (-99 : Int32) else nI x) = 1 ↔ 0 < g := by
    refine Iff.trans ?_ ((ds_1 x3).trans ((mkm_bt (G 0) c hf).trans hg))
    by_cases q : x = 0
    · rw [if_pos q]; exact ⟨fun z => absurd z (by decide), fun z => by omega⟩
    · rw [if_neg q]; exact nI_eq (b := 1) (by omega) (by omega)
  have a567 : ((if x = 0 then (-99 : Int32) else nI x) ≤ 0 ↔ x9 < 0) ∧ ¬ nI l' < x9 ∧ (0 < g → nI g ≤ x9) := by
    rcases g5 with ⟨z1, z2, z3, z4⟩ | ⟨z1, z2⟩
    · have zq : ¬ x = 0 := hpt.mpr z1
      rw [if_neg zq, q2, z2]
      exact ⟨⟨fun z => absurd z (nI_nle (by omega) (by omega)), fun z => absurd z (nI_pos (by omega))⟩, nI_nlt z3 (by omega), fun z => nI_le (z4 z) (by omega)⟩
    · have zq : x = 0 := by
        by_cases q : x = 0
        · exact q
        · exact absurd (hpt.mp q) z1
      rw [if_pos zq, q2, z2]
      refine ⟨⟨fun _ => by decide, fun _ => by decide⟩, fun z => ?_, fun z => ?_⟩
      · rw [Int32.lt_iff_toInt_lt, nI_toInt (by omega), show (-99 : Int32).toInt = -99 by decide] at z
        omega
      · have := (ds_1 x3).mpr ((mkm_bt (G 0) c hf).mpr (hg.mpr z))
        omega
  by_cases q : (((f_X5_feed G2 (nI f) 0) >>> ((nI c) &&& 31)) &&& 1) = 1
  · have qo := (hb_iff _ _).mp q
    rw [v_feed0 hf, e2] at qo
    obtain ⟨G', w1, w2⟩ := r_359 (kb4 := kb4) (kb186 := f_L_isRight_p186 kb4 n) (x1 := x1) (l := l') d2 hc hf x2 (by rw [e2]; exact x3) (s0 := 1) (by rw [e2]; exact ⟨fun _ => qo, fun _ => by decide⟩)
    refine ⟨G', sim_tr s2 w1, ?_⟩
    rw [if_pos q]
    exact r_241 (by omega) g3 (fun _ => own0 qo) a3 a4 a567.1 a567.2.1 a567.2.2 w2
  · have qo : ¬ ¬ f_X5_hasBit ((G 0) 4 f) (nI c) = 0 := fun z => q ((hb_iff _ _).mpr (by rw [v_feed0 hf, e2]; exact z))
    obtain ⟨G', w1, w2⟩ := r_359 (kb4 := kb4) (kb186 := f_L_isRight_p186 kb4 n) (x1 := x1) (l := l') d2 hc hf x2 (by rw [e2]; exact x3) (s0 := 0) (by rw [e2]; exact ⟨fun z => absurd rfl z, fun z => absurd z qo⟩)
    refine ⟨G', sim_tr s2 w1, ?_⟩
    rw [if_neg q]
    exact r_241 (by omega) g3 (fun z => absurd rfl z) a3 a4 a567.1 a567.2.1 a567.2.2 w2
