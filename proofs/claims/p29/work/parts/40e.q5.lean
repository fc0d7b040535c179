/-! p29, 5: the calls -/
/-- ticks: a call makes at most 101 -/
def TR (A M : SR) : Prop := ∀ b : Nat, TKB A b → TKB M (b + 101)
theorem tr_of {A K N : SR} (k : K = A) (e : N 10 3 = K 10 3) : TR A N := fun b hb => tkb_le (tkb_eq hb (by rw [e, k])) (by omega)
theorem p91_10 (M : SR) (a b c : Int32) : (f_X4_setChannelByHand_p91 a b c M) 10 = M 10 := by
  have z : ∀ F : SR, (mFd M F) 10 = M 10 := fun F => by
    unfold mFd
    rw [vu_ne (by decide), vu_ne (by decide)]
  rw [f_X4_setChannelByHand_p91]
  by_cases c1 : b = 1
  · rw [if_pos c1, sLet_eq, z]
  · rw [if_neg c1]
    by_cases c2 : b = 2
    · rw [if_pos c2, sLet_eq, z]
    · rw [if_neg c2]
theorem t_hand (M : SR) (p b v : Int32) : (f_X4_setChannelByHand M p b v) 10 3 = M 10 3 := by
  rw [f_X4_setChannelByHand]
  by_cases c0 : b = 0
  · rw [if_pos c0, sLet_eq, p91_10, sU_row (by decide)]
  rw [if_neg c0]
  by_cases c1 : b = 1
  · rw [if_pos c1, sLet_eq, p91_10, sU_row (by decide)]
  rw [if_neg c1]
  by_cases c2 : b = 2
  · rw [if_pos c2, sLet_eq, p91_10, sU_ne (by decide)]
  rw [if_neg c2]
  by_cases c3 : b = 3
  · rw [if_pos c3, sLet_eq, p91_10, sU_ne (by decide)]
  rw [if_neg c3, sLet_eq, p91_10, sU_row (by decide)]
theorem t_group (M : SR) (p b v : Int32) : (f_X4_setGroupByHand M p b v) 10 3 = M 10 3 := by
  rw [f_X4_setGroupByHand]
  by_cases c1 : b = 1
  · rw [if_pos c1, sLet_eq, sU_ne (by decide)]
  · rw [if_neg c1, sLet_eq, sLet_eq]
    unfold mFd
    rw [vu_ne (by decide), vu_ne (by decide), sU_row (by decide)]
theorem t_store (M : SR) (p : Int32) : (f_X4_keepScene M p) 10 3 = M 10 3 := by
  rw [f_X4_keepScene, sLet_eq, sLet_eq, sLet_eq, sU_ne (by decide), sU_row (by decide)]
  unfold sR
  rw [vu_ne (by decide)]
theorem t_begin (M : SR) (p q : Int32) : (f_X4_beginFade M p q) 10 3 = M 10 3 := by
  rw [f_X4_beginFade]
  by_cases c : q ≤ 0
  · rw [if_pos c, sLet_eq, sLet_eq, sLet_eq, sU_ne (by decide)]
    unfold sR mFd
    rw [vu_ne (by decide), vu_ne (by decide), vu_ne (by decide)]
  · rw [if_neg c, sLet_eq]
    unfold mFd
    rw [vu_ne (by decide), vu_ne (by decide)]
theorem in_of {x : Int32} {n : Nat} (h : vp_in x (n + 1)) (hn : n < 2 ^ 31 - 1) : IN x n := by
  obtain ⟨j, hj, e⟩ := vp_in_of h (by omega)
  exact ⟨j, by omega, e⟩
def OPK (G : GR) (x : Int32 × GR) : Prop := (x.2 = G ∧ (x.1 = -1 ∨ x.1 = -2 ∨ x.1 = -3)) ∨ ∃ M : SR, x.2 = va_up (f_X1_keep G) 0 M ∧ SANE M ∧ ¬ x.1 < 0 ∧ TR (G 0) M
/-- setReturn: -1 may be the return that was -/
def OPR (G : GR) (x : Int32 × GR) : Prop := (x.2 = G ∧ (x.1 = -1 ∨ x.1 = -2)) ∨ ∃ M : SR, x.2 = va_up (f_X1_keep G) 0 M ∧ SANE M ∧ (x.1 = -1 ∨ ¬ x.1 < 0) ∧ TR (G 0) M
theorem opk_desk {G : GR} {x : Int32 × GR} (h : DESK G) (o : OPK G x) : DESK x.2 ∧ (¬ x.1 < 0 → UN (G 0) x.2) ∧ (x.1 < 0 → x.2 0 = G 0) ∧ x.2 9 = G 9 ∧ TR (G 0) (x.2 0) := by
  rcases o with ⟨e, c⟩ | ⟨M, e, hM, c, ht⟩
  · rw [e]
    refine ⟨h, fun z => absurd ?_ z, fun _ => rfl, rfl, tr_of rfl rfl⟩
    rcases c with c | c | c
    · rw [c]; decide
    · rw [c]; decide
    · rw [c]; decide
  · obtain ⟨k1, k2, -, -, k9⟩ := keep_desk h
    rw [e]
    exact ⟨desk_s k1 (by omega) hM, fun _ => un_o k2 (by omega), fun z => absurd z c, by rw [vu_ne (by decide)]; exact k9, by rw [vu_eq]; exact ht⟩
theorem opr_desk {G : GR} {x : Int32 × GR} (h : DESK G) (o : OPR G x) : DESK x.2 ∧ (¬ x.1 < 0 → UN (G 0) x.2) ∧ (x.1 = -2 ∨ x.1 = -3 → x.2 0 = G 0) ∧ x.2 9 = G 9 ∧ TR (G 0) (x.2 0) := by
  rcases o with ⟨e, c⟩ | ⟨M, e, hM, c, ht⟩
  · rw [e]
    refine ⟨h, fun z => absurd ?_ z, fun _ => rfl, rfl, tr_of rfl rfl⟩
    rcases c with c | c
    · rw [c]; decide
    · rw [c]; decide
  · obtain ⟨k1, k2, -, -, k9⟩ := keep_desk h
    rw [e]
    refine ⟨desk_s k1 (by omega) hM, fun _ => un_o k2 (by omega), fun z => ?_, by rw [vu_ne (by decide)]; exact k9, by rw [vu_eq]; exact ht⟩
    rcases c with c | c
    · rw [c] at z; exact absurd z (by decide)
    · exact absurd (by rcases z with z | z <;> rw [z] <;> decide) c
theorem p91_sane {M : SR} (h : SANE M) (a b c : Int32) : SANE (f_X4_setChannelByHand_p91 a b c M) := by
  rw [f_X4_setChannelByHand_p91]
  by_cases c1 : b = 1
  · rw [if_pos c1, sLet_eq]; exact sane_touch h a
  · rw [if_neg c1]
    by_cases c2 : b = 2
    · rw [if_pos c2, sLet_eq]; exact sane_touch h a
    · rw [if_neg c2]; exact h
theorem hand_sane {M : SR} (h : SANE M) {c : Nat} (hc : c < 12) (b : Int32) {v : Int32} (h0 : b = 0 → IN v 1000) (h1 : b = 1 → IN v 100) (h4 : ¬ b = 0 → ¬ b = 1 → ¬ b = 2 → ¬ b = 3 → IN v 15) : SANE (f_X4_setChannelByHand M (nI c) b v) := by
  rw [f_X4_setChannelByHand, nI_clamp (show c < 2 ^ 31 by omega)]
  by_cases c0 : b = 0
  · rw [if_pos c0, sLet_eq, up_sU]; exact p91_sane (sane_v h (by decide) (san_0 h.1 (tn_up (s_0 h.1) (h0 c0)))) _ _ _
  rw [if_neg c0]
  by_cases c1 : b = 1
  · rw [if_pos c1, sLet_eq, up_sU]; exact p91_sane (sane_v h (by decide) (san_1 h.1 (tn_up (s_1 h.1) (h1 c1)))) _ _ _
  rw [if_neg c1]
  by_cases c2 : b = 2
  · rw [if_pos c2, sLet_eq, up_sU]; exact p91_sane (sane_v h (by decide) (san_10 h.1 (ct_o (s_10 h.1) (by omega)))) _ _ _
  rw [if_neg c2]
  by_cases c3 : b = 3
  · rw [if_pos c3, sLet_eq, up_sU]; exact p91_sane (sane_v h (by decide) (san_10 h.1 (ct_o (s_10 h.1) (by omega)))) _ _ _
  rw [if_neg c3, sLet_eq, up_sU]
  exact p91_sane (sane_v h (by decide) (san_2 h.1 (tn_up (s_2 h.1) (h4 c0 c1 c2 c3)))) _ _ _
theorem cprop_ge {M : SR} (h : SAN M) {c : Nat} (hc : c < 12) (b : Int32) : ¬ f_X4_channelProperty M (nI c) b < 0 := by
  have z : ∀ x : Int32, ¬ (if x = 0 then (0 : Int32) else 1) < 0 := fun x => by
    by_cases q : x = 0
    · rw [if_pos q]; decide
    · rw [if_neg q]; decide
  rw [f_X4_channelProperty, nI_clamp (show c < 2 ^ 31 by omega)]
  by_cases c0 : b = 0
  · rw [if_pos c0]; exact in_ge (s_0 h c hc) (by decide)
  rw [if_neg c0]
  by_cases c1 : b = 1
  · rw [if_pos c1]; exact in_ge (s_1 h c (by omega)) (by decide)
  rw [if_neg c1]
  by_cases c2 : b = 2
  · rw [if_pos c2]; exact z _
  rw [if_neg c2]
  by_cases c3 : b = 3
  · rw [if_pos c3]; exact z _
  rw [if_neg c3]; exact in_ge (s_2 h c hc) (by decide)
theorem o_setChannel {G : GR} (h : DESK G) (v1 v2 v3 : Int32) : OPK G (f_X5_setChannel G v1 v2 v3) := by
  rw [f_X5_setChannel]
  by_cases c1 : f_X5_isBelow v1 12 = 0
  · rw [if_pos c1]; exact Or.inl ⟨rfl, Or.inl rfl⟩
  rw [if_neg c1]
  by_cases c2 : f_X5_isBelow v2 5 = 0
  · rw [if_pos c2]; exact Or.inl ⟨rfl, Or.inl rfl⟩
  rw [if_neg c2]
  by_cases c3 : f_X5_isWithin v3 0 (chI v2.toNatClampNeg) = 0
  · rw [if_pos c3]; exact Or.inl ⟨rfl, Or.inl rfl⟩
  rw [if_neg c3, sLet_eq, sLet_eq]
  obtain ⟨c, hc, rfl⟩ := vp_in_of (below_vp (n := 12) c1) (by decide)
  obtain ⟨w, hw, rfl⟩ := vp_in_of (below_vp (n := 5) c2) (by decide)
  rw [nI_clamp (by omega)] at c3
  have hM : SANE (f_X1_keep G 0) := by rw [(keep_desk h).2.2.1]; exact h.1 0 (by omega)
  have hv : ∀ n : Nat, chI w = nI n → n < 2000 → IN v3 n := fun n e hn => in_of (within_vp c3 (n := n) (by omega) e (by decide)) (by omega)
  refine Or.inr ⟨_, rfl, hand_sane hM hc _ (fun e => ?_) (fun e => ?_) (fun e0 e1 e2 e3 => ?_), cprop_ge hM.1 hc _, tr_of (keep_desk h).2.2.1 (t_hand _ _ _ _)⟩
  · have : w = 0 := (nI_eq (a := w) (b := 0) (by omega) (by omega)).mp e
    subst this; exact hv 1000 (by decide +kernel) (by omega)
  · have : w = 1 := (nI_eq (a := w) (b := 1) (by omega) (by omega)).mp e
    subst this; exact hv 100 (by decide +kernel) (by omega)
  · have : w = 4 := by
      rcases (show w = 0 ∨ w = 1 ∨ w = 2 ∨ w = 3 ∨ w = 4 by omega) with e | e | e | e | e
      · exact absurd (by rw [e]; rfl) e0
      · exact absurd (by rw [e]; rfl) e1
      · exact absurd (by rw [e]; rfl) e2
      · exact absurd (by rw [e]; rfl) e3
      · exact e
    subst this; exact hv 15 (by decide +kernel) (by omega)
theorem o_setGroup {G : GR} (h : DESK G) (v1 v2 v3 : Int32) : OPK G (f_X5_setGroup G v1 v2 v3) := by
  rw [f_X5_setGroup]
  by_cases c1 : f_X5_isBelow v1 4 = 0
  · rw [if_pos c1]; exact Or.inl ⟨rfl, Or.inl rfl⟩
  rw [if_neg c1]
  by_cases c2 : f_X5_isBelow v2 2 = 0
  · rw [if_pos c2]; exact Or.inl ⟨rfl, Or.inl rfl⟩
  rw [if_neg c2]
  by_cases c3 : f_X5_isWithin v3 0 (grI v2.toNatClampNeg) = 0
  · rw [if_pos c3]; exact Or.inl ⟨rfl, Or.inl rfl⟩
  rw [if_neg c3, sLet_eq, sLet_eq]
  obtain ⟨g, hg, rfl⟩ := vp_in_of (below_vp (n := 4) c1) (by decide)
  obtain ⟨w, hw, rfl⟩ := vp_in_of (below_vp (n := 2) c2) (by decide)
  rw [nI_clamp (by omega)] at c3
  have hM : SANE (f_X1_keep G 0) := by rw [(keep_desk h).2.2.1]; exact h.1 0 (by omega)
  refine Or.inr ⟨_, rfl, ?_, ?_, tr_of (keep_desk h).2.2.1 (t_group _ _ _ _)⟩
  · rw [f_X4_setGroupByHand]
    by_cases c4 : nI w = 1
    · rw [if_pos c4, sLet_eq, up_sU]; exact sane_v hM (by decide) (san_10 hM.1 (ct_o (s_10 hM.1) (by omega)))
    · have : w = 0 := by
        rcases (show w = 0 ∨ w = 1 by omega) with e | e
        · exact e
        · exact absurd (by rw [e]; rfl) c4
      subst this
      rw [if_neg c4, sLet_eq, sLet_eq, ix12 g hg, up_sU]
      have hv : IN v3 100 := in_of (within_vp c3 (n := 100) (by omega) (by decide +kernel) (by decide)) (by omega)
      exact sane_touch (sane_v hM (by decide) (san_1 hM.1 (tn_up (s_1 hM.1) hv))) _
  · rw [f_X4_groupProperty, ix12 g hg]
    dsimp only
    by_cases q : nI w = 0
    · rw [if_pos q]; exact in_ge (s_1 hM.1 (12 + g) (by omega)) (by decide)
    · rw [if_neg q]
      by_cases z : f_X5_hasBit (f_X1_keep G 0 10 2) (nI g) = 0
      · rw [if_pos z]; decide
      · rw [if_neg z]; decide
theorem o_setSend {G : GR} (h : DESK G) (v1 v2 v3 : Int32) : OPK G (f_X5_setSend G v1 v2 v3) := by
  rw [f_X5_setSend]
  by_cases c1 : f_X5_isBelow v1 4 = 0
  · rw [if_pos c1]; exact Or.inl ⟨rfl, Or.inl rfl⟩
  rw [if_neg c1]
  by_cases c2 : f_X5_isBelow v2 12 = 0
  · rw [if_pos c2]; exact Or.inl ⟨rfl, Or.inl rfl⟩
  rw [if_neg c2]
  by_cases c3 : f_X5_isWithin v3 0 100 = 0
  · rw [if_pos c3]; exact Or.inl ⟨rfl, Or.inl rfl⟩
  rw [if_neg c3, sLet_eq, sLet_eq]
  obtain ⟨f, hf, rfl⟩ := vp_in_of (below_vp (n := 4) c1) (by decide)
  obtain ⟨c, hc, rfl⟩ := vp_in_of (below_vp (n := 12) c2) (by decide)
  have hM : SANE (f_X1_keep G 0) := by rw [(keep_desk h).2.2.1]; exact h.1 0 (by omega)
  have hv : IN v3 100 := in_of (within_vp c3 (n := 100) (by omega) (by decide +kernel) (by decide)) (by omega)
  rw [six f hf c hc, up_sU]
  exact Or.inr ⟨_, rfl, sane_v hM (by decide) (san_3 hM.1 (tn_up (s_3 hM.1) hv)), in_ge (s_3 hM.1 (12 * f + c) (by omega)) (by decide), tr_of (keep_desk h).2.2.1 (by rw [vu_ne (by decide)])⟩
theorem vp_and {x y : Int32} {n : Nat} (hn : n ≤ 4096) (h : vp_in x n) : vp_in (x &&& y) n := by
  obtain ⟨j, hj, e⟩ := vp_in_of h (by omega)
  have hx : x.toBitVec.toNat = j := by
    rw [e]
    show (Int32.ofNat j).toBitVec.toNat = j
    rw [Int32.toBitVec_ofNat']
    simp only [BitVec.toNat_ofNat]
    omega
  have hb : (x &&& y).toBitVec.toNat ≤ j := by
    rw [Int32.toBitVec_and, BitVec.toNat_and, hx]
    exact Nat.and_le_left
  have : x &&& y = nI (x &&& y).toBitVec.toNat := by
    apply Int32.toBitVec_inj.mp
    show _ = (Int32.ofNat _).toBitVec
    rw [Int32.toBitVec_ofNat']
    simp only [BitVec.ofNat_toNat, BitVec.setWidth_eq]
  rw [this]
  exact vp_in_nI (by omega) (by omega)
theorem vp_or {x y : Int32} (h : vp_in x 4096) (h2 : vp_in y 4096) : vp_in (x ||| y) 4096 := by
  obtain ⟨j, hj, e⟩ := vp_in_of h (by decide)
  obtain ⟨k, hk, e2⟩ := vp_in_of h2 (by decide)
  have : x ||| y = nI (j ||| k) := by
    rw [e, e2]
    apply Int32.toBitVec_inj.mp
    show (nI j ||| nI k).toBitVec = (Int32.ofNat (j ||| k)).toBitVec
    rw [Int32.toBitVec_or]
    show (Int32.ofNat j).toBitVec ||| (Int32.ofNat k).toBitVec = _
    rw [Int32.toBitVec_ofNat', Int32.toBitVec_ofNat', Int32.toBitVec_ofNat']
    exact (BitVec.ofNat_or ..).symm
  rw [this]
  exact vp_in_nI (Nat.or_lt_two_pow (n := 12) hj hk) (by decide)
theorem own_vp {x : Int32} (hx : vp_in x 4096) {c d : Nat} (hc : c < 12) (hd : d < 2) : vp_in (f_X5_withBit x (nI c) (nI d)) 4096 := by
  unfold f_X5_withBit
  by_cases q : nI d = 1
  · rw [if_pos q]
    exact vp_or hx (vp_of_B ((by decide +kernel : ∀ c : Nat, c < 12 → vp_okB (1 <<< (nI c &&& 31)) 4096 = true) c hc))
  · rw [if_neg q]
    exact vp_and (by omega) hx
theorem bits_ge : ∀ a : Nat, a < 64 → ∀ b : Nat, b < 64 → ¬ f_J6_bitCount_0f7a4 (nI (64 * a + b)) < 0 := by decide +kernel
theorem bit_ge {x : Int32} (h : vp_in x 4096) : ¬ f_J6_bitCount_0f7a4 x < 0 := by
  obtain ⟨j, hj, rfl⟩ := vp_in_of h (by decide)
  have g := bits_ge (j / 64) (by omega) (j % 64) (by omega)
  rw [show 64 * (j / 64) + j % 64 = j by omega] at g
  exact g
theorem o_setOwner {G : GR} (h : DESK G) (v1 v2 v3 : Int32) : OPK G (f_X5_setOwner G v1 v2 v3) := by
  rw [f_X5_setOwner]
  by_cases c1 : f_X5_isBelow v1 4 = 0
  · rw [if_pos c1]; exact Or.inl ⟨rfl, Or.inl rfl⟩
  rw [if_neg c1]
  by_cases c2 : f_X5_isBelow v2 12 = 0
  · rw [if_pos c2]; exact Or.inl ⟨rfl, Or.inl rfl⟩
  rw [if_neg c2]
  by_cases c3 : f_X5_isWithin v3 0 1 = 0
  · rw [if_pos c3]; exact Or.inl ⟨rfl, Or.inl rfl⟩
  rw [if_neg c3, sLet_eq, sLet_eq]
  obtain ⟨f, hf, rfl⟩ := vp_in_of (below_vp (n := 4) c1) (by decide)
  obtain ⟨c, hc, rfl⟩ := vp_in_of (below_vp (n := 12) c2) (by decide)
  obtain ⟨d, hd, rfl⟩ := vp_in_of (within_vp c3 (n := 1) (by omega) (by decide +kernel) (by decide)) (by decide)
  have hM : SANE (f_X1_keep G 0) := by rw [(keep_desk h).2.2.1]; exact h.1 0 (by omega)
  have hv := own_vp (s_4 hM.1 f hf) hc (show d < 2 by omega)
  rw [nI_clamp (show f < 2 ^ 31 by omega), vu_eq, sU_eq]
  refine Or.inr ⟨_, rfl, ?_, bit_ge hv, tr_of (keep_desk h).2.2.1 (by rw [sU_row (by decide)])⟩
  rw [up_sU]
  refine sane_v hM (by decide) (san_4 hM.1 (fun j hj => ?_))
  by_cases e : j = f
  · subst e; rw [up_eq]; exact hv
  · rw [up_ne e]; exact s_4 hM.1 j hj
theorem fb_loop {M : SR} {p : Int32} : ∀ n j : Nat, n + j = 5 → j ≤ 4 → (f_X4_feedBackInto_p9 M p n (nI j) = -99 ∧ ∀ i : Nat, j ≤ i → i < 4 → ¬ M 5 i = p) ∨ ∃ i : Nat, j ≤ i ∧ i < 4 ∧ f_X4_feedBackInto_p9 M p n (nI j) = nI i ∧ M 5 i = p := by
  intro n
  induction n with
  | zero => intro j hn hj; omega
  | succ n ih =>
    intro j hn hj
    rw [f_X4_feedBackInto_p9]
    by_cases c : (4 : Int32) ≤ nI j
    · have := (nI_leI (a := 4) (b := j) (by omega) (by omega)).mp c
      rw [if_pos c]; exact Or.inl ⟨rfl, fun i h1 h2 => by omega⟩
    · have q : j < 4 := lp_ge (x := nI j) rfl (show (4 : Int32) = nI 4 from rfl) (by omega) (by omega) c
      rw [if_neg c, nI_1, nI_clamp (by omega)]
      by_cases d : M 5 j = p
      · rw [if_pos d]; exact Or.inr ⟨j, Nat.le_refl j, q, rfl, d⟩
      · rw [if_neg d]
        rcases ih (j + 1) (by omega) (by omega) with ⟨e1, e2⟩ | ⟨i, i1, i2, i3, i4⟩
        · refine Or.inl ⟨e1, fun i h1 h2 => ?_⟩
          by_cases e : i = j
          · subst e; exact d
          · exact e2 i (by omega) h2
        · exact Or.inr ⟨i, by omega, i2, i3, i4⟩
theorem fb_spec (M : SR) {p : Int32} (hp : 0 ≤ p) : (f_X4_feedBackInto M p = -99 ∧ ∀ i : Nat, i < 4 → ¬ M 5 i = p) ∨ ∃ i : Nat, i < 4 ∧ f_X4_feedBackInto M p = nI i ∧ M 5 i = p := by
  rw [f_X4_feedBackInto, if_pos hp]
  have h := fb_loop (M := M) (p := p) 5 0 (by omega) (by omega)
  rw [nI_0] at h
  rcases h with ⟨e1, e2⟩ | ⟨i, i1, i2, i3, i4⟩
  · exact Or.inl ⟨e1, fun i hi => e2 i (by omega) hi⟩
  · exact Or.inr ⟨i, i2, i3, i4⟩
theorem ret_up {f : Nat → Int32} {k : Nat} {v : Int32} (h : RET f) (hv : v = -1 ∨ (IN v 11 ∧ ∀ j : Nat, j < 4 → j ≠ k → ¬ f j = v)) : RET (upd f k v) := by
  refine ⟨fun j hj => ?_, fun i j hi hj hij e => ?_⟩
  · by_cases q : j = k
    · subst q; rw [up_eq]
      rcases hv with z | ⟨z, -⟩
      · exact Or.inl z
      · exact Or.inr z
    · rw [up_ne q]; exact h.1 j hj
  · by_cases q : i = k
    · subst q
      rw [up_eq] at e ⊢
      rw [up_ne (Ne.symm hij)] at e
      rcases hv with z | ⟨-, z⟩
      · exact z
      · exact absurd e.symm (z j hj (Ne.symm hij))
    · rw [up_ne q] at e ⊢
      by_cases r : j = k
      · subst r
        rw [up_eq] at e
        rcases hv with z | ⟨-, z⟩
        · rw [e]; exact z
        · exact absurd e (z i hi q)
      · rw [up_ne r] at e; exact h.2 i j hi hj hij e
theorem o_setReturn {G : GR} (h : DESK G) (v1 v2 : Int32) : OPR G (f_X5_setReturn G v1 v2) := by
  rw [f_X5_setReturn]
  by_cases c1 : f_X5_isBelow v1 4 = 0
  · rw [if_pos c1]; exact Or.inl ⟨rfl, Or.inl rfl⟩
  rw [if_neg c1]
  by_cases c2 : f_X5_isWithin v2 (-1) 11 = 0
  · rw [if_pos c2]; exact Or.inl ⟨rfl, Or.inl rfl⟩
  rw [if_neg c2]
  obtain ⟨f, hf, rfl⟩ := vp_in_of (below_vp (n := 4) c1) (by decide)
  have hr : v2 = -1 ∨ (0 ≤ v2 ∧ IN v2 11) := by
    by_cases z : v2 < 0
    · left
      rw [f_X5_isWithin] at c2
      by_cases y : v2 < -1
      · rw [if_pos y] at c2; exact absurd rfl c2
      · rw [Int32.lt_iff_toInt_lt] at z y
        have q0 : (0 : Int32).toInt = 0 := by decide
        have q1 : (-1 : Int32).toInt = -1 := by decide
        exact Int32.toInt_inj.mp (by omega)
    · right
      obtain ⟨j, hj, rfl⟩ := nI_of z
      rw [f_X5_isWithin] at c2
      by_cases y : nI j < -1
      · rw [if_pos y] at c2; exact absurd rfl c2
      · rw [if_neg y] at c2
        by_cases x : 11 < nI j
        · rw [if_pos x] at c2; exact absurd rfl c2
        · exact ⟨nI_pos' hj, in_n (by have : ¬ 11 < j := fun u => x (nI_lt (a := 11) u hj); omega)⟩
  have h0 := h.1 0 (by omega)
  have key : (v2 = -1 ∨ (IN v2 11 ∧ ∀ j : Nat, j < 4 → j ≠ f → ¬ G 0 5 j = v2)) → OPR G (f_X5_setReturn_p43 (nI f) v2 G) := fun hk => by
    have hM : SANE (f_X1_keep G 0) := by rw [(keep_desk h).2.2.1]; exact h0
    rw [f_X5_setReturn_p43, sLet_eq, sLet_eq, nI_clamp (show f < 2 ^ 31 by omega), up_sU]
    rw [← (keep_desk h).2.2.1] at hk
    refine Or.inr ⟨_, rfl, sane_v hM (by decide) (san_5 hM.1 (ret_up (s_5 hM.1) hk)), ?_, tr_of (keep_desk h).2.2.1 (by rw [vu_ne (by decide)])⟩
    rcases (s_5 hM.1).1 f hf with e | e
    · exact Or.inl e
    · exact Or.inr (in_ge e (by decide))
  by_cases c3 : f_X4_feedBackInto (G 0) v2 = -99
  · rw [if_pos c3]
    refine key ?_
    rcases hr with e | ⟨e, e2⟩
    · exact Or.inl e
    · right
      refine ⟨e2, fun j hj _ => ?_⟩
      rcases fb_spec (G 0) e with ⟨-, g⟩ | ⟨i, i1, i2, i3⟩
      · exact g j hj
      · rw [c3] at i2; exact absurd i2.symm (by rw [show (-99 : Int32) = -99 from rfl]; exact fun z => nI_pos (n := i) (by omega) (by rw [z]; decide))
  · rw [if_neg c3]
    by_cases c4 : f_X4_feedBackInto (G 0) v2 = nI f
    · rw [if_pos c4]
      refine key ?_
      rcases hr with e | ⟨e, e2⟩
      · exact Or.inl e
      · right
        refine ⟨e2, fun j hj hjf z => ?_⟩
        rcases fb_spec (G 0) e with ⟨g, -⟩ | ⟨i, i1, i2, i3⟩
        · exact c3 g
        · have : i = f := (nI_eq (by omega) (by omega)).mp (i2.symm.trans c4)
          subst this
          have := (s_5 h0.1).2 j i hj hf hjf (z.trans i3.symm)
          rw [z] at this
          rw [this] at e
          exact absurd e (by decide)
    · rw [if_neg c4]; exact Or.inl ⟨rfl, Or.inr rfl⟩
theorem o_run {G : GR} (h : DESK G) (v1 : Int32) : OPK G (f_X5_run G v1) := by
  rw [f_X5_run]
  by_cases c1 : f_X5_isWithin v1 1 100 = 0
  · rw [if_pos c1]; exact Or.inl ⟨rfl, Or.inl rfl⟩
  rw [if_neg c1]
  by_cases c2 : (G 0) 10 3 + v1 ≤ 10000
  · rw [if_pos c2, sLet_eq, sLet_eq]
    obtain ⟨t, ht, rfl⟩ := vp_in_of (within_vp c1 (n := 100) (by omega) (by decide +kernel) (by decide)) (by decide)
    have hM : SANE (f_X1_keep G 0) := by rw [(keep_desk h).2.2.1]; exact h.1 0 (by omega)
    have hg := go_sane hM t
    refine Or.inr ⟨_, rfl, hg, ?_, fun b hb => tkb_le (go_tkb hM (t := t) (by omega) (tkb_eq hb (by rw [(keep_desk h).2.2.1]))) (by omega)⟩
    dsimp only
    rw [vu_eq]
    exact in_ge (s_10 hg.1).1 (by decide)
  · rw [if_neg c2]; exact Or.inl ⟨rfl, Or.inr (Or.inr rfl)⟩
theorem o_reset {G : GR} (h : DESK G) : OPK G (f_X5_reset G) := by
  rw [f_X5_reset, sLet_eq, sLet_eq, sLet_eq]
  have hM : SANE (f_X1_keep G 0) := by rw [(keep_desk h).2.2.1]; exact h.1 0 (by omega)
  refine Or.inr ⟨sU (sU (f_X1_keep G 0) 10 5 0) 10 6 0, ?_, ?_, in_ge (s_10 hM.1).2.1 (by decide), tr_of (keep_desk h).2.2.1 (by rw [sU_ne (by decide), sU_ne (by decide)])⟩
  · dsimp only
    rw [vu_eq]
    funext k
    by_cases q : k = 0
    · subst q; rw [vu_eq, vu_eq]
    · rw [vu_ne q, vu_ne q, vu_ne q]
  · have a1 : SANE (sU (f_X1_keep G 0) 10 5 0) := by
      rw [up_sU]; exact sane_v hM (by decide) (san_10 hM.1 (ct_5 (s_10 hM.1) in_0))
    rw [up_sU (sU (f_X1_keep G 0) 10 5 0)]
    exact sane_v a1 (by decide) (san_10 a1.1 (ct_o (s_10 a1.1) (by omega)))
theorem i17 : ∀ a : Nat, a < 6 → (nI a * 17).toNatClampNeg = 17 * a ∧ (nI a * 17 + 16).toNatClampNeg = 17 * a + 16 := by decide +kernel
theorem or63 : ∀ m : Nat, m < 64 → ∀ k : Nat, k < 6 → vp_okB (nI m ||| (1 <<< (nI k &&& 31))) 64 = true := by decide +kernel
theorem bit63 : ∀ m : Nat, m < 64 → ¬ f_J6_bitCount_0f7a4 (nI m) < 0 := by decide +kernel
theorem o_store {G : GR} (h : DESK G) (v1 : Int32) : OPK G (f_X5_store G v1) := by
  rw [f_X5_store]
  by_cases c1 : f_X5_isBelow v1 6 = 0
  · rw [if_pos c1]; exact Or.inl ⟨rfl, Or.inl rfl⟩
  rw [if_neg c1, sLet_eq, sLet_eq]
  obtain ⟨a, ha, rfl⟩ := vp_in_of (below_vp (n := 6) c1) (by decide)
  have hM : SANE (f_X1_keep G 0) := by rw [(keep_desk h).2.2.1]; exact h.1 0 (by omega)
  have k0 := (keep_desk h).2.2.1
  generalize f_X1_keep G 0 = M at hM k0 ⊢
  obtain ⟨m, m1, m2⟩ := (s_10 hM.1).2.2
  have h7 : (f_X4_keepScene M (nI a)) 10 7 = nI m ||| (1 <<< (nI a &&& 31)) := by
    rw [f_X4_keepScene, sLet_eq, sLet_eq, sLet_eq, sU_eq, sU_row (by decide)]
    unfold sR
    rw [vu_ne (by decide), m2]
  have hv : IN (nI m ||| (1 <<< (nI a &&& 31))) 63 := in_of (vp_of_B (or63 m (by omega) a ha)) (by decide)
  refine Or.inr ⟨_, rfl, ?_, ?_, tr_of k0 (t_store _ _)⟩
  · rw [f_X4_keepScene, sLet_eq, sLet_eq, sLet_eq, (i17 a ha).1, (i17 a ha).2]
    have a1 : SANE (sR M 8 (va_cpy (M 1) (M 8) 0 (17 * a) 16)) := by
      refine sane_v hM (by decide) (san_8 hM.1 (fun k hk j hj => ?_))
      by_cases e : k = a
      · subst e
        rw [pk_cpy_in (by omega) (by omega)]
        exact s_1 hM.1 _ (by omega)
      · rw [pk_cpy_out (by omega)]
        exact s_8 hM.1 k hk j hj
    have a2 : ∀ v : Int32, SANE (sU (sR M 8 (va_cpy (M 1) (M 8) 0 (17 * a) 16)) 8 (17 * a + 16) v) := fun v => by
      rw [up_sU]
      refine sane_v a1 (by decide) (san_8 a1.1 (fun k hk j hj => ?_))
      rw [up_ne (by omega)]
      exact s_8 a1.1 k hk j hj
    have a3 := a2 ((sR M 8 (va_cpy (M 1) (M 8) 0 (17 * a) 16)) 10 0)
    have e7 : (sU (sR M 8 (va_cpy (M 1) (M 8) 0 (17 * a) 16)) 8 (17 * a + 16) ((sR M 8 (va_cpy (M 1) (M 8) 0 (17 * a) 16)) 10 0)) 10 7 = nI m := by
      rw [sU_row (by decide)]
      unfold sR
      rw [vu_ne (by decide), m2]
    rw [e7]
    generalize sU (sR M 8 (va_cpy (M 1) (M 8) 0 (17 * a) 16)) 8 (17 * a + 16) ((sR M 8 (va_cpy (M 1) (M 8) 0 (17 * a) 16)) 10 0) = N at a3 ⊢
    rw [up_sU]
    exact sane_v a3 (by decide) (san_10 a3.1 (ct_7 (s_10 a3.1) hv))
  · dsimp only
    rw [vu_eq, h7]
    obtain ⟨j, j1, j2⟩ := hv
    rw [j2]
    exact bit63 j (by omega)
theorem unl_loop {M : SR} {p : Int32} : ∀ (n x : Nat) (j : Int32), x + n < 100 → ∃ k : Nat, k < 100 ∧ f_X4_slidersUnlike_p4 M p n (nI x) j = nI k := by
  intro n
  induction n with
  | zero => intro x j hx; exact ⟨0, by omega, nI_0.symm⟩
  | succ n ih =>
    intro x j hx
    rw [f_X4_slidersUnlike_p4]
    by_cases c : (16 : Int32) ≤ j
    · rw [if_pos c]; exact ⟨x, by omega, rfl⟩
    · rw [if_neg c]
      by_cases d : M 1 j.toNatClampNeg = M 8 ((p * 17) + j).toNatClampNeg
      · rw [if_pos d]; exact ih x _ (by omega)
      · rw [if_neg d, nI_1]; exact ih (x + 1) _ (by omega)
theorem o_recall {G : GR} (h : DESK G) (v1 v2 : Int32) : OPK G (f_X5_recall G v1 v2) := by
  rw [f_X5_recall]
  by_cases c1 : f_X5_isBelow v1 6 = 0
  · rw [if_pos c1]; exact Or.inl ⟨rfl, Or.inl rfl⟩
  rw [if_neg c1]
  by_cases c2 : f_X5_isWithin v2 0 100 = 0
  · rw [if_pos c2]; exact Or.inl ⟨rfl, Or.inl rfl⟩
  rw [if_neg c2]
  by_cases c3 : f_X5_hasBit ((G 0) 10 7) v1 = 0
  · rw [if_pos c3]; exact Or.inl ⟨rfl, Or.inr (Or.inl rfl)⟩
  rw [if_neg c3, sLet_eq, sLet_eq]
  obtain ⟨a, ha, rfl⟩ := vp_in_of (below_vp (n := 6) c1) (by decide)
  obtain ⟨t, ht, rfl⟩ := vp_in_of (within_vp c2 (n := 100) (by omega) (by decide +kernel) (by decide)) (by decide)
  have hM : SANE (f_X1_keep G 0) := by rw [(keep_desk h).2.2.1]; exact h.1 0 (by omega)
  have k0 := (keep_desk h).2.2.1
  generalize f_X1_keep G 0 = M at hM k0 ⊢
  refine Or.inr ⟨_, rfl, ?_, ?_, tr_of k0 (t_begin _ _ _)⟩
  · rw [f_X4_beginFade]
    by_cases c4 : nI t ≤ 0
    · rw [if_pos c4, sLet_eq, sLet_eq, sLet_eq, (i17 a ha).1]
      have a1 := sane_end hM.1 hM.2.1
      generalize mFd M (f_X0_end M) = N at a1 ⊢
      have a2 : SANE (sR N 1 (fun q => N 8 (17 * a + q))) := sane_v a1 (by decide) (san_1 a1.1 (fun j hj => s_8 a1.1 a ha j hj))
      generalize sR N 1 (fun q => N 8 (17 * a + q)) = N2 at a2 ⊢
      rw [up_sU]
      exact sane_v a2 (by decide) (san_10 a2.1 (ct_o (s_10 a2.1) (by omega)))
    · rw [if_neg c4, sLet_eq]
      exact sane_begin hM.1 ha (by
        rcases Nat.eq_zero_or_pos t with e | e
        · subst e; exact absurd (by decide) c4
        · exact e) (by omega)
  · dsimp only
    rw [f_X4_slidersUnlike]
    obtain ⟨k, k1, k2⟩ := unl_loop (M := M) (p := nI a) 17 0 0 (by omega)
    rw [nI_0] at k2
    rw [k2]
    exact nI_pos (by omega)
