/-! fresh objects: every answer of the first call -/
theorem bi (x a b : Int32) (hb : b.toInt + 1 = a.toInt) : f_X5_isBelow x a = f_X6_in x 0 b := by
  unfold f_X5_isBelow f_X6_in
  by_cases c : x < 0
  · rw [if_pos c, if_pos c]
  · rw [if_neg c, if_neg c]
    by_cases d : a ≤ x
    · rw [if_pos d, if_pos (by rw [Int32.le_iff_toInt_le] at d; rw [Int32.lt_iff_toInt_lt]; omega)]
    · rw [if_neg d, if_neg (by rw [Int32.le_iff_toInt_le] at d; rw [Int32.lt_iff_toInt_lt]; omega)]
theorem e12 (x : Int32) : f_X5_isBelow x 12 = f_X6_isChannel x := bi x 12 11 (by decide)
theorem e4 (x : Int32) : f_X5_isBelow x 4 = f_X6_isFour x := bi x 4 3 (by decide)
theorem e6 (x : Int32) : f_X5_isBelow x 6 = f_X6_isScene x := bi x 6 5 (by decide)
theorem ew (x a b : Int32) : f_X5_isWithin x a b = f_X6_in x a b := rfl
theorem in0_ne {v : Int32} {m : Nat} (k : Nat) (h : f_X6_in v 0 (nI m) = 0) (hk : k ≤ m) (hm : m < 2 ^ 31) : ¬ v = nI k := by
  intro e
  rw [e, f_X6_in, if_neg (nI_pos (by omega)), if_neg (nI_nlt hk hm)] at h
  exact absurd h (by decide)
theorem in0_below {v : Int32} {m : Nat} (n : Nat) (h : f_X6_in v 0 (nI m) = 0) (hn : n ≤ m + 1) (hm : m < 2 ^ 30) : f_X5_isBelow v (nI n) = 0 := by
  unfold f_X6_in at h
  unfold f_X5_isBelow
  by_cases c : v < 0
  · rw [if_pos c]
  · rw [if_neg c] at h ⊢
    by_cases d : nI m < v
    · rw [if_pos]
      rw [Int32.lt_iff_toInt_lt, nI_toInt (by omega)] at d
      rw [Int32.le_iff_toInt_le, nI_toInt (by omega)]
      omega
    · rw [if_neg d] at h
      exact absurd h (by decide)
theorem act51_r : ∀ (n : Nat) (x : Int32) (R : SR) (r : Nat), r ≠ 2 → r ≠ 6 → (f_X6_act_p51 n x R) r = R r := by
  intro n
  induction n with
  | zero => intro x R r h2 h6; rfl
  | succ n ih =>
    intro x R r h2 h6
    rw [f_X6_act_p51]
    by_cases c : (289 : Int32) ≤ x
    · rw [if_pos c, sLet_eq]; exact if_neg h6
    · rw [if_neg c, sLet_eq, ih _ _ r h2 h6]; exact if_neg h2
theorem act10_r : ∀ (n : Nat) (x : Int32) (R : SR) (r : Nat), r ≠ 2 → r ≠ 6 → (f_X6_act_p10 n x R) r = R r := by
  intro n
  induction n with
  | zero => intro x R r h2 h6; rfl
  | succ n ih =>
    intro x R r h2 h6
    rw [f_X6_act_p10]
    by_cases c : (1156 : Int32) ≤ x
    · rw [if_pos c, sLet_eq, f_X6_act_p49, act51_r _ _ _ r h2 h6]; exact if_neg h6
    · rw [if_neg c, sLet_eq, ih _ _ r h2 h6]; exact if_neg h2
theorem act_r {R : SR} {r : Nat} (h2 : r ≠ 2) (h6 : r ≠ 6) : (f_X6_act R) r = R r := by
  unfold f_X6_act
  by_cases c : R 6 1 = 5
  · rw [if_pos c, act10_r _ _ _ r h2 h6]
  · rw [if_neg c, f_X6_act_p49, act51_r _ _ _ r h2 h6]
theorem act_0 (R : SR) : (f_X6_act R) 0 = R 0 := act_r (by decide) (by decide)
theorem keep_G0 : f_X1_keep G0 0 = S0 := by rw [f_X1_keep, if_pos (show (G0 7) 0 0 = 0 from rfl)]; rfl
theorem r0_row : (sU R0 6 0 0) 0 = rowMd := rfl
theorem va_up_eq {α : Type} {f : Nat → α} {k : Nat} {v : α} : va_up f k v k = v := if_pos rfl
theorem sU_eq {R : SR} {r k : Nat} {v : Int32} : sU R r k v r k = v := by
  unfold sU
  rw [va_up_eq]
  exact if_pos rfl
theorem part_eq (a b : Int32) : f_X6_isPart a b = if f_X5_isBelow a 5 = 0 then 0 else f_X5_isWithin b 0 (chI a.toNatClampNeg) := by
  by_cases c0 : a = 0
  · subst c0; rw [f_X6_isPart, if_pos rfl, if_neg (by decide)]; rfl
  by_cases c1 : a = 1
  · subst c1; rw [f_X6_isPart, if_neg (by decide), if_pos rfl, if_neg (by decide)]; rfl
  by_cases c2 : a = 2
  · subst c2; rw [f_X6_isPart, if_neg (by decide), if_neg (by decide), if_pos rfl, if_neg (by decide)]; rfl
  by_cases c3 : a = 3
  · subst c3; rw [f_X6_isPart, if_neg (by decide), if_neg (by decide), if_neg (by decide), if_pos rfl, if_neg (by decide)]; rfl
  by_cases c4 : a = 4
  · subst c4; rw [f_X6_isPart, if_neg (by decide), if_neg (by decide), if_neg (by decide), if_neg (by decide), if_pos rfl, if_neg (by decide)]; rfl
  rw [f_X6_isPart, if_neg c0, if_neg c1, if_neg c2, if_neg c3, if_neg c4]
  by_cases d : f_X5_isBelow a 5 = 0
  · rw [if_pos d]
  · obtain ⟨j, hj, e⟩ := vp_in_of (below_vp (n := 5) d) (by decide)
    rcases (show j = 0 ∨ j = 1 ∨ j = 2 ∨ j = 3 ∨ j = 4 by omega) with rfl | rfl | rfl | rfl | rfl
    · exact absurd e c0
    · exact absurd e c1
    · exact absurd e c2
    · exact absurd e c3
    · exact absurd e c4
def INV (i : Nat) (G : GR) (R : SR) : Prop := i = 0 → G = G0 ∧ R = R0
theorem fz_prop : ∀ a : Nat, a < 12 → ∀ b : Nat, b < 5 → f_X4_channelProperty S0 (nI a) (nI b) = rowMd ((5 * nI a) + nI b).toNatClampNeg := by decide +kernel
theorem cmp_setChannel {i : Nat} {G : GR} {R : SR} (hV : INV i G R) (hi : i + 4 ≤ 4) (v1 v2 v3 : Int32) : (f_X5_setChannel G v1 v2 v3).1 = (f_X6_setChannel R v1 v2 v3).1 := by
  obtain ⟨rfl, rfl⟩ := hV (by omega)
  dsimp only [f_X5_setChannel, f_X6_setChannel, sLet]
  rw [e12, part_eq]
  by_cases c1 : f_X6_isChannel v1 = 0
  · rw [if_pos c1, if_pos c1]
  · rw [if_neg c1, if_neg c1]
    by_cases c2 : f_X5_isBelow v2 5 = 0
    · rw [if_pos c2, if_pos c2, if_pos rfl]
    · rw [if_neg c2, if_neg c2]
      by_cases c3 : f_X5_isWithin v3 0 (chI v2.toNatClampNeg) = 0
      · rw [if_pos c3, if_pos c3]
      · rw [if_neg c3, if_neg c3]
        obtain ⟨a, ha, rfl⟩ := vp_in_of (ch_vp c1) (by decide)
        obtain ⟨b, hb, rfl⟩ := vp_in_of (below_vp (n := 5) c2) (by decide)
        dsimp only
        rw [keep_G0, f_X6_of, act_0, r0_row]
        exact fz_prop a ha b hb
theorem fz_gr : ∀ a : Nat, a < 4 → f_X4_groupProperty S0 (nI a) 0 = rowMd (72 + nI a).toNatClampNeg ∧ f_X4_groupProperty S0 (nI a) 1 = rowMd (76 + nI a).toNatClampNeg := by decide +kernel
theorem cmp_setGroup {i : Nat} {G : GR} {R : SR} (hV : INV i G R) (hi : i + 4 ≤ 4) (v1 v2 v3 : Int32) : (f_X5_setGroup G v1 v2 v3).1 = (f_X6_setGroup R v1 v2 v3).1 := by
  obtain ⟨rfl, rfl⟩ := hV (by omega)
  dsimp only [f_X5_setGroup, f_X6_setGroup, sLet]
  rw [e4, bi v2 2 1 (by decide)]
  by_cases c1 : f_X6_isFour v1 = 0
  · rw [if_pos c1, if_pos c1]
  · rw [if_neg c1, if_neg c1]
    by_cases c2 : f_X6_in v2 0 1 = 0
    · rw [if_pos c2, if_pos c2]
    · rw [if_neg c2, if_neg c2]
      obtain ⟨a, ha, rfl⟩ := vp_in_of (four_vp c1) (by decide)
      obtain ⟨b, hb, rfl⟩ := vp_in_of (in_vp (n := 1) c2 (by decide)) (by decide)
      rcases (show b = 0 ∨ b = 1 by omega) with rfl | rfl
      · rw [if_pos (show nI 0 = 0 from rfl)]
        show (if f_X6_in v3 0 100 = 0 then _ else _ : Int32 × GR).1 = _
        by_cases c3 : f_X6_in v3 0 100 = 0
        · rw [if_pos c3, if_pos c3]
        · rw [if_neg c3, if_neg c3, if_pos (show nI 0 = 0 from rfl)]
          have h : f_X4_groupProperty (f_X1_keep G0 0) (nI a) (nI 0) = f_X6_act (sU R0 6 0 0) 0 (72 + nI a).toNatClampNeg := by
            rw [keep_G0, act_0, r0_row]; exact (fz_gr a ha).1
          (repeat' split) <;> (dsimp only; exact h)
      · rw [if_neg (show ¬ nI 1 = 0 by decide)]
        show (if f_X6_in v3 0 1 = 0 then _ else _ : Int32 × GR).1 = _
        by_cases c3 : f_X6_in v3 0 1 = 0
        · rw [if_pos c3, if_pos c3]
        · rw [if_neg c3, if_neg c3, if_neg (show ¬ nI 1 = 0 by decide)]
          have h : f_X4_groupProperty (f_X1_keep G0 0) (nI a) (nI 1) = f_X6_act (sU R0 6 0 0) 0 (76 + nI a).toNatClampNeg := by
            rw [keep_G0, act_0, r0_row]; exact (fz_gr a ha).2
          (repeat' split) <;> (dsimp only; exact h)
theorem fz_snd : ∀ a : Nat, a < 4 → ∀ b : Nat, b < 12 → rowMd ((88 + (12 * nI a)) + nI b).toNatClampNeg = 0 := by decide +kernel
theorem cmp_setSend {i : Nat} {G : GR} {R : SR} (hV : INV i G R) (hi : i + 4 ≤ 4) (v1 v2 v3 : Int32) : (f_X5_setSend G v1 v2 v3).1 = (f_X6_setSend R v1 v2 v3).1 := by
  obtain ⟨rfl, rfl⟩ := hV (by omega)
  dsimp only [f_X5_setSend, f_X6_setSend, sLet]
  rw [e4, e12, ew]
  by_cases c1 : f_X6_isFour v1 = 0
  · rw [if_pos c1, if_pos c1]
  · rw [if_neg c1, if_neg c1]
    by_cases c2 : f_X6_isChannel v2 = 0
    · rw [if_pos c2, if_pos c2]
    · rw [if_neg c2, if_neg c2]
      by_cases c3 : f_X6_in v3 0 100 = 0
      · rw [if_pos c3, if_pos c3]
      · rw [if_neg c3, if_neg c3]
        obtain ⟨a, ha, rfl⟩ := vp_in_of (four_vp c1) (by decide)
        obtain ⟨b, hb, rfl⟩ := vp_in_of (ch_vp c2) (by decide)
        dsimp only
        rw [keep_G0, f_X6_sendOf, act_0, r0_row]
        exact (fz_snd a ha b hb).symm
theorem fz_80 : ∀ a : Nat, a < 4 → rowMd (80 + nI a).toNatClampNeg = 0 := by decide +kernel
theorem cmp_setOwner {i : Nat} {G : GR} {R : SR} (hV : INV i G R) (hi : i + 4 ≤ 4) (v1 v2 v3 : Int32) : (f_X5_setOwner G v1 v2 v3).1 = (f_X6_setOwner R v1 v2 v3).1 := by
  obtain ⟨rfl, rfl⟩ := hV (by omega)
  dsimp only [f_X5_setOwner, f_X6_setOwner, sLet]
  rw [e4, e12, ew]
  by_cases c1 : f_X6_isFour v1 = 0
  · rw [if_pos c1, if_pos c1]
  · rw [if_neg c1, if_neg c1]
    by_cases c2 : f_X6_isChannel v2 = 0
    · rw [if_pos c2, if_pos c2]
    · rw [if_neg c2, if_neg c2]
      by_cases c3 : f_X6_in v3 0 1 = 0
      · rw [if_pos c3, if_pos c3]
      · rw [if_neg c3, if_neg c3]
        obtain ⟨a, ha, rfl⟩ := vp_in_of (four_vp c1) (by decide)
        obtain ⟨b, hb, rfl⟩ := vp_in_of (ch_vp c2) (by decide)
        obtain ⟨d, hd, rfl⟩ := vp_in_of (in_vp (n := 1) c3 (by decide)) (by decide)
        dsimp only
        rw [va_up_eq, sU_eq, sU_eq, keep_G0, act_0, r0_row, fz_80 a ha]
        exact fz_own b hb d hd
theorem fz_84 : ∀ a : Nat, a < 4 → rowMd (84 + nI a).toNatClampNeg = -1 ∧ S0 5 (nI a).toNatClampNeg = -1 := by decide +kernel
theorem cmp_setReturn {i : Nat} {G : GR} {R : SR} (hV : INV i G R) (hi : i + 4 ≤ 4) (v1 v2 : Int32) : (f_X5_setReturn G v1 v2).1 = (f_X6_setReturn R v1 v2).1 := by
  obtain ⟨rfl, rfl⟩ := hV (by omega)
  dsimp only [f_X5_setReturn, f_X5_setReturn_p43, f_X6_setReturn, sLet]
  rw [e4, ew]
  by_cases c1 : f_X6_isFour v1 = 0
  · rw [if_pos c1, if_pos c1]
  · rw [if_neg c1, if_neg c1]
    by_cases c2 : f_X6_in v2 (-1) 11 = 0
    · rw [if_pos c2, if_pos c2]
    · rw [if_neg c2, if_neg c2]
      obtain ⟨a, ha, rfl⟩ := vp_in_of (four_vp c1) (by decide)
      have h : f_X1_keep G0 0 5 (nI a).toNatClampNeg = f_X6_act (sU R0 6 0 0) 0 (84 + nI a).toNatClampNeg := by
        rw [keep_G0, act_0, r0_row]; exact (fz_84 a ha).2.trans (fz_84 a ha).1.symm
      rcases in_m1 c2 with e | e
      · subst e
        rw [if_pos (show f_X4_feedBackInto (G0 0) (-1) = -99 from by decide +kernel), if_pos rfl]
        dsimp only
        exact h
      · obtain ⟨b, hb, rfl⟩ := vp_in_of e (by decide)
        rw [show G0 0 = S0 from rfl, if_pos (fz_back b hb).1, if_neg (show ¬ nI b = -1 from fun z => nI_pos (n := b) (by omega) (by rw [z]; decide)), if_pos (fz_back b hb).2]
        dsimp only
        exact h
theorem scenes_0 (R S : SR) (h : ∀ k : Nat, k < 6 → R 0 (181 + 18 * k) = S 0 (181 + 18 * k)) : f_X6_scenes R = f_X6_scenes S := by
  have key : ∀ (n k : Nat) (x : Int32), k ≤ 6 → f_X6_scenes_p4 R n x (nI k) = f_X6_scenes_p4 S n x (nI k) := by
    intro n
    induction n with
    | zero => intro k x hk; rfl
    | succ n ih =>
      intro k x hk
      rw [f_X6_scenes_p4, f_X6_scenes_p4]
      by_cases c : (6 : Int32) ≤ nI k
      · rw [if_pos c, if_pos c]
      · have hk6 : k < 6 := lp_ge (x := nI k) rfl (show (6 : Int32) = nI 6 from rfl) (by omega) (by omega) c
        have e : (181 + 18 * nI k).toNatClampNeg = 181 + 18 * k := (by decide +kernel : ∀ k : Nat, k < 6 → (181 + 18 * nI k).toNatClampNeg = 181 + 18 * k) k hk6
        rw [if_neg c, if_neg c, nI_1, ih _ _ (by omega), e, h k hk6]
  exact key 7 0 0 (by omega)
theorem at_lt : ∀ k : Nat, k < 16 → (f_X6_at (nI k)).toNatClampNeg < 76 := by decide +kernel
theorem store_p36 {p : Nat} (hp : p < 6) (p1 : Int32) : ∀ (n j : Nat) (R : SR), j ≤ 16 → 16 < j + n → ∃ S : SR, f_X6_store_p36 p1 n (nI (181 + 18 * p)) (nI j) R = (f_X6_scenes S, S) ∧ (∀ i : Nat, (i < 182 + 18 * p ∨ 198 + 18 * p < i) → S 0 i = R 0 i) ∧ ∀ r : Nat, r ≠ 0 → S r = R r := by
  intro n
  induction n with
  | zero => intro j R h1 h2; omega
  | succ n ih =>
    intro j R h1 h2
    rw [f_X6_store_p36]
    by_cases c : (16 : Int32) ≤ nI j
    · rw [if_pos c, sLet_eq, show (17 : Int32) = nI 17 from rfl, nI_add, nI_clamp (by omega)]
      exact ⟨_, rfl, fun i hi => s_other (by omega), fun r hr => if_neg hr⟩
    · have hj : j < 16 := lp_ge (x := nI j) rfl (show (16 : Int32) = nI 16 from rfl) (by omega) (by omega) c
      rw [if_neg c, sLet_eq, nI_1, show nI (181 + 18 * p) + 1 = nI (181 + 18 * p + 1) from nI_1 _, nI_add, nI_clamp (by omega)]
      obtain ⟨S, e, a1, a2⟩ := ih (j + 1) (sU R 0 (181 + 18 * p + 1 + j) (R 0 (f_X6_at (nI j)).toNatClampNeg)) (by omega) (by omega)
      exact ⟨S, e, fun i hi => (a1 i hi).trans (s_other (by omega)), fun r hr => (a2 r hr).trans (if_neg hr)⟩
theorem sc_ix : ∀ a : Nat, a < 6 → 181 + 18 * nI a = nI (181 + 18 * a) := by decide +kernel
theorem store_ref (R : SR) {a : Nat} (ha : a < 6) (c : ¬ f_X6_isScene (nI a) = 0) : (f_X6_store R (nI a)).1 = f_X6_scenes (fun _ => upd (R 0) (181 + 18 * a) 1) := by
  unfold f_X6_store
  rw [sLet_eq, if_neg c, sLet_eq, sLet_eq, sc_ix a ha]
  obtain ⟨S, e, a1, a2⟩ := store_p36 ha (nI a) 17 0 (sU (f_X6_act (sU R 6 0 0)) 0 (nI (181 + 18 * a)).toNatClampNeg 1) (by omega) (by omega)
  rw [nI_0] at e
  rw [e]
  refine scenes_0 _ _ fun k hk => ?_
  rw [a1 _ (by omega), nI_clamp (by omega)]
  show (if 181 + 18 * k = 181 + 18 * a then 1 else (f_X6_act (sU R 6 0 0)) 0 (181 + 18 * k)) = _
  rw [act_0]
  rfl
theorem store_cls (G : GR) {a : Int32} (hk : (f_X1_keep G) 0 = G 0) (c : ¬ f_X5_isBelow a 6 = 0) : (f_X5_store G a).1 = f_J6_bitCount_0f7a4 ((f_X4_keepScene (G 0) a) 10 7) := by
  unfold f_X5_store
  rw [if_neg c, sLet_eq, sLet_eq]
  dsimp only
  rw [va_up_eq, hk]
theorem cmp_store {i : Nat} {G : GR} {R : SR} (hV : INV i G R) (hi : i + 4 ≤ 4) (v1 : Int32) : (f_X5_store G v1).1 = (f_X6_store R v1).1 := by
  obtain ⟨rfl, rfl⟩ := hV (by omega)
  by_cases c1 : f_X6_isScene v1 = 0
  · rw [f_X5_store, e6, if_pos c1, f_X6_store, sLet_eq, if_pos c1]
  · obtain ⟨a, ha, rfl⟩ := vp_in_of (scene_vp c1) (by decide)
    rw [store_ref R0 ha c1, store_cls G0 keep_G0 (by rw [e6]; exact c1)]
    exact (fz_st a ha).1
theorem fz_rc : ∀ a : Nat, a < 6 → f_X5_hasBit 0 (nI a) = 0 ∧ rowMd (181 + (18 * nI a)).toNatClampNeg = 0 := by decide +kernel
theorem cmp_recall {i : Nat} {G : GR} {R : SR} (hV : INV i G R) (hi : i + 4 ≤ 4) (v1 v2 : Int32) : (f_X5_recall G v1 v2).1 = (f_X6_recall R v1 v2).1 := by
  obtain ⟨rfl, rfl⟩ := hV (by omega)
  dsimp only [f_X5_recall, f_X6_recall, sLet]
  rw [e6, ew]
  by_cases c1 : f_X6_isScene v1 = 0
  · rw [if_pos c1, if_pos c1]
  · rw [if_neg c1, if_neg c1]
    by_cases c2 : f_X6_in v2 0 100 = 0
    · rw [if_pos c2, if_pos c2]
    · rw [if_neg c2, if_neg c2]
      obtain ⟨a, ha, rfl⟩ := vp_in_of (scene_vp c1) (by decide)
      rw [show (G0 0) 10 7 = 0 from rfl, if_pos (fz_rc a ha).1, r0_row, if_pos (fz_rc a ha).2]
/-! a silent desk stays silent -/
def QL (M : SR) : Prop := (∀ j : Nat, j < 12 → M 1 j = 0) ∧ (∀ f : Nat, M 7 f = 0) ∧ M 10 4 = 0 ∧ M 11 2 = 0
theorem lvl0 (M : SR) (c : Int32) : ∀ (n : Nat) (x : Int32), f_X4_levelOf_p30 M c n 0 x = 0 := by
  intro n
  induction n with
  | zero => intro x; rfl
  | succ n ih =>
    intro x
    rw [f_X4_levelOf_p30]
    by_cases h : (4 : Int32) ≤ x
    · rw [if_pos h]
    · rw [if_neg h]
      by_cases g : f_X5_hasBit (M 2 c.toNatClampNeg) x = 0
      · rw [if_pos g, ih]
      · rw [if_neg g, Int32.zero_mul, show (0 : Int32) / 100 = 0 from by decide, ih]
theorem lvl0' {M : SR} (h : ∀ j : Nat, j < 12 → M 1 j = 0) {c : Int32} (hc : c.toNatClampNeg < 12) : f_X4_levelOf M c = 0 := by
  unfold f_X4_levelOf
  rw [h _ hc, lvl0]
  split <;> (try split) <;> rfl
theorem clamp_lt {x : Int32} {n : Nat} (hn : n < 2 ^ 31) (h0 : 0 < n) (h : ¬ nI n ≤ x) : x.toNatClampNeg < n := by
  by_cases c : x < 0
  · have : x.toNatClampNeg = 0 := by
      show x.toInt.toNat = 0
      rw [Int32.lt_iff_toInt_lt] at c
      have : (0 : Int32).toInt = 0 := by decide
      omega
    omega
  · obtain ⟨j, hj, e⟩ := nI_of c
    rw [e] at h ⊢
    rw [nI_clamp hj]
    rw [nI_leI hn hj] at h
    omega
theorem gain00 (M : SR) (a b : Int32) : f_X4_gainAt M a b 0 = 0 := by
  unfold f_X4_gainAt
  rw [Int32.zero_mul, show (0 : Int32) / 100 = 0 from by decide]
  split <;> rfl
theorem ql_7 {M : SR} (h : QL M) {k : Nat} {v : Int32} (hv : v = 0) : QL (sU M 7 k v) := by
  refine ⟨h.1, fun f => ?_, h.2.2.1, h.2.2.2⟩
  show (if f = k then v else M 7 f) = 0
  by_cases e : f = k
  · rw [if_pos e, hv]
  · rw [if_neg e]; exact h.2.1 f
theorem ql_104 {M : SR} (h : QL M) {v : Int32} (hv : v = 0) : QL (sU M 10 4 v) := ⟨h.1, h.2.1, hv, h.2.2.2⟩
theorem ql_105 {M : SR} (h : QL M) {v : Int32} : QL (sU M 10 5 v) := ⟨h.1, h.2.1, h.2.2.1, h.2.2.2⟩
theorem ql_103 {M : SR} (h : QL M) {v : Int32} : QL (sU M 10 3 v) := ⟨h.1, h.2.1, h.2.2.1, h.2.2.2⟩
theorem ql_6 {M : SR} (h : QL M) {k : Nat} {v : Int32} : QL (sU M 6 k v) := ⟨h.1, h.2.1, h.2.2.1, h.2.2.2⟩
theorem ql_6r {M : SR} (h : QL M) {v : Nat → Int32} : QL (sR M 6 v) := ⟨h.1, h.2.1, h.2.2.1, h.2.2.2⟩
theorem ql_clip : ∀ (n : Nat) (x : Int32) (M : SR), QL M → QL (f_X4_clip_p2 n x M) := by
  intro n
  induction n with
  | zero => intro x M h; exact h
  | succ n ih =>
    intro x M h
    rw [f_X4_clip_p2]
    by_cases c : (4 : Int32) ≤ x
    · rw [if_pos c]; exact h
    · rw [if_neg c, if_pos (by rw [h.2.1]; decide)]
      exact ih _ _ h
theorem ql_61 (kb : Int32 → SR → SR) (hk : ∀ (x : Int32) (M : SR), QL M → QL (kb x M)) : ∀ (n : Nat) (x1 x3 : Int32) (M : SR), QL M → QL (f_X4_mix_p61 kb n x1 0 x3 M) := by
  intro n
  induction n with
  | zero => intro x1 x3 M h; exact h
  | succ n ih =>
    intro x1 x3 M h
    rw [f_X4_mix_p61]
    by_cases c : (4 : Int32) ≤ x3
    · rw [if_pos c]; exact hk _ _ h
    · rw [if_neg c, sLet_eq]
      exact ih _ _ _ (ql_7 h (by rw [h.2.1, gain00, Int32.mul_zero]; decide))
theorem ql_27 : ∀ (n : Nat) (x : Int32) (M : SR), QL M → QL (f_X4_mix_p27 n x M) := by
  intro n
  induction n with
  | zero => intro x M h; exact h
  | succ n ih =>
    intro x M h
    rw [f_X4_mix_p27]
    by_cases c : (12 : Int32) ≤ x
    · rw [if_pos c, sLet_eq, sLet_eq]
      have g : QL (f_X4_clip M) := by
        rw [f_X4_clip]
        exact ql_clip 5 0 M h
      exact ql_105 g
    · have hl : f_X4_levelOf M x = 0 := lvl0' h.1 (clamp_lt (n := 12) (by omega) (by omega) c)
      rw [if_neg c, sLet_eq, hl, Int32.mul_zero]
      exact ql_61 (f_X4_mix_p27 n) ih 5 _ _ _ (ql_104 h (by rw [h.2.2.1]; decide))
theorem ql_2 : ∀ (n : Nat) (x : Int32) (M : SR), QL M → QL (f_X4_mix_p2 n x M) := by
  intro n
  induction n with
  | zero => intro x M h; exact h
  | succ n ih =>
    intro x M h
    rw [f_X4_mix_p2]
    by_cases c : (4 : Int32) ≤ x
    · rw [if_pos c, sLet_eq]; exact ql_27 _ _ _ (ql_104 h rfl)
    · rw [if_neg c, sLet_eq]; exact ih _ _ (ql_7 h rfl)
theorem ql_sig : ∀ (n : Nat) (x : Int32) (M : SR), QL M → QL (f_X4_takeSignals_p17 n x M) := by
  intro n
  induction n with
  | zero => intro x M h; exact h
  | succ n ih =>
    intro x M h
    rw [f_X4_takeSignals_p17]
    by_cases c : (4 : Int32) ≤ x
    · rw [if_pos c]; exact h
    · rw [if_neg c]
      split
      · exact ih _ _ h
      · rw [sLet_eq]; exact ih _ _ (ql_6 h)
theorem ql_go (p : Int32) : ∀ (n : Nat) (x : Int32) (M : SR), QL M → QL (f_X4_goOn_p2 p n x M) := by
  intro n
  induction n with
  | zero => intro x M h; exact h
  | succ n ih =>
    intro x M h
    rw [f_X4_goOn_p2]
    by_cases c : p ≤ x
    · rw [if_pos c]; exact h
    · rw [if_neg c, if_pos (by unfold f_X0_isGoingOn; rw [h.2.2.2]; decide)]
      unfold f_X4_goOn_p21
      rw [sLet_eq, sLet_eq, sLet_eq]
      have g : QL (f_X4_takeSignals M) := by
        unfold f_X4_takeSignals
        rw [sLet_eq]
        exact ql_sig _ _ _ (ql_6r h)
      have g2 : QL (f_X4_mix (f_X4_takeSignals M)) := by
        rw [f_X4_mix]
        exact ql_2 _ _ _ g
      exact ih _ _ (ql_103 g2)
theorem ql_S0 : QL S0 := ⟨fun j hj => (by decide +kernel : ∀ j : Nat, j < 12 → S0 1 j = 0) j hj, fun f => rfl, rfl, rfl⟩
def QR (R : SR) : Prop := (∀ j : Nat, j < 12 → R 0 (5 * j + 1) = 0) ∧ R 0 144 = -1 ∧ (∀ f : Nat, f < 4 → R 0 (136 + f) = 0) ∧ R 0 141 = 0
theorem qr_s {R : SR} (h : QR R) {k : Nat} {v : Int32} (hk : 60 ≤ k ∧ (k < 136 ∨ v = 0 ∨ (139 < k ∧ k ≠ 141 ∧ k ≠ 144))) (h4 : k ≠ 144) : QR (sU R 0 k v) := by
  refine ⟨fun j hj => ?_, ?_, fun f hf => ?_, ?_⟩
  · rw [s_other (by omega)]; exact h.1 j hj
  · rw [s_other (by omega)]; exact h.2.1
  · show (if 136 + f = k then v else R 0 (136 + f)) = 0
    by_cases e : 136 + f = k
    · rw [if_pos e]; rcases hk.2 with q | q | q
      · omega
      · exact q
      · omega
    · rw [if_neg e]; exact h.2.2.1 f hf
  · show (if 141 = k then v else R 0 141) = 0
    by_cases e : 141 = k
    · rw [if_pos e]; rcases hk.2 with q | q | q
      · omega
      · exact q
      · omega
    · rw [if_neg e]; exact h.2.2.2
theorem rlv0 (R : SR) (c : Int32) : ∀ (n : Nat) (x : Int32), f_X6_level_p29 R c n 0 x = 0 := by
  intro n
  induction n with
  | zero => intro x; rfl
  | succ n ih =>
    intro x
    rw [f_X6_level_p29]
    by_cases h : (4 : Int32) ≤ x
    · rw [if_pos h]
    · rw [if_neg h]
      by_cases g : f_X6_has (f_X6_of R c 4) x = 0
      · rw [if_pos g, ih]
      · rw [if_neg g, Int32.zero_mul, show (0 : Int32) / 100 = 0 from by decide, ih]
theorem of1 : ∀ j : Nat, j < 12 → ((5 * nI j) + 1).toNatClampNeg = 5 * j + 1 := by decide +kernel
theorem rlv0' {R : SR} (h : ∀ j : Nat, j < 12 → R 0 (5 * j + 1) = 0) {j : Nat} (hj : j < 12) : f_X6_level R (nI j) = 0 := by
  unfold f_X6_level
  rw [show f_X6_of R (nI j) 1 = 0 from by unfold f_X6_of; rw [of1 j hj]; exact h j hj, rlv0]
  split <;> (try split) <;> rfl
theorem rg0 {R : SR} (h : ∀ j : Nat, j < 12 → R 0 (5 * j + 1) = 0) {f : Int32} {j : Nat} (hj : j < 12) : f_X6_gain R f (nI j) = 0 := by
  unfold f_X6_gain
  rw [rlv0' h hj, Int32.zero_mul, show (0 : Int32) / 100 = 0 from by decide]
  split <;> rfl
theorem lt12 {j : Nat} (hj : j ≤ 12) (c : ¬ (12 : Int32) ≤ nI j) : j < 12 := lp_ge (x := nI j) rfl (show (12 : Int32) = nI 12 from rfl) (by omega) (by omega) c
theorem lt4 {j : Nat} (hj : j ≤ 4) (c : ¬ (4 : Int32) ≤ nI j) : j < 4 := lp_ge (x := nI j) rfl (show (4 : Int32) = nI 4 from rfl) (by omega) (by omega) c
theorem cl_add (a j : Nat) (h : a + j < 2 ^ 31) : (nI a + nI j).toNatClampNeg = a + j := by rw [nI_add, nI_clamp h]
theorem qr_188 : ∀ (n j : Nat) (R : SR), j ≤ 12 → QR R → QR (f_X6_tick_p188 n 0 (nI j) R) := by
  intro n
  induction n with
  | zero => intro j R hj h; exact h
  | succ n ih =>
    intro j R hj h
    rw [f_X6_tick_p188]
    by_cases c : (12 : Int32) ≤ nI j
    · rw [if_pos c, sLet_eq, sLet_eq, sLet_eq]
      exact qr_s (qr_s (qr_s h (k := 141) ⟨by omega, Or.inr (Or.inl rfl)⟩ (by omega)) (k := 142) ⟨by omega, Or.inr (Or.inr ⟨by omega, by omega, by omega⟩)⟩ (by omega)) (k := 140) ⟨by omega, Or.inr (Or.inr ⟨by omega, by omega, by omega⟩)⟩ (by omega)
    · rw [if_neg c, rlv0' h.1 (lt12 hj c), Int32.mul_zero, show (0 : Int32) + 0 / 100 = 0 from by decide, nI_1]
      exact ih _ _ (lt12 hj c) h
theorem qr_97 (kb : Int32 → SR → SR) {f : Nat} (hf : f < 4) (hk : ∀ (R : SR), QR R → QR (kb (nI (f + 1)) R)) : ∀ (n j : Nat) (R : SR), j ≤ 12 → QR R → QR (f_X6_tick_p97 kb n (nI f) 0 (nI j) R) := by
  intro n
  induction n with
  | zero => intro j R hj h; exact h
  | succ n ih =>
    intro j R hj h
    rw [f_X6_tick_p97]
    by_cases c : (12 : Int32) ≤ nI j
    · rw [if_pos c, if_pos (by decide), sLet_eq, if_pos (by decide), sLet_eq, show (136 : Int32) = nI 136 from rfl, cl_add 136 f (by omega), nI_1]
      exact hk _ (qr_s (qr_s h (k := 136 + f) ⟨by omega, Or.inr (Or.inl rfl)⟩ (by omega)) (k := 143) ⟨by omega, Or.inr (Or.inr ⟨by omega, by omega, by omega⟩)⟩ (by omega))
    · rw [if_neg c, rg0 h.1 (lt12 hj c), Int32.mul_zero, show (0 : Int32) + 0 / 100 = 0 from by decide, nI_1]
      exact ih _ _ (lt12 hj c) h
theorem qr_88 : ∀ (n j : Nat) (R : SR), j ≤ 4 → QR R → QR (f_X6_tick_p88 n (nI j) R) := by
  intro n
  induction n with
  | zero => intro j R hj h; exact h
  | succ n ih =>
    intro j R hj h
    rw [f_X6_tick_p88]
    by_cases c : (4 : Int32) ≤ nI j
    · rw [if_pos c]
      have := qr_188 13 0 R (by omega) h
      rw [nI_0] at this
      exact this
    · rw [if_neg c]
      have := qr_97 (f_X6_tick_p88 n) (lt4 hj c) (fun R h => ih _ _ (lt4 hj c) h) 13 0 R (by omega) h
      rw [nI_0] at this
      exact this
theorem qr_55 (kb : Int32 → SR → SR) {j : Nat} (hj : j < 12) (hk : ∀ (R : SR), QR R → QR (kb (nI (j + 1)) R)) (s0 s1 : Int32) (R : SR) (h : QR R) : QR (f_X6_tick_p55 kb (nI j) s0 s1 R) := by
  unfold f_X6_tick_p55
  rw [show (60 : Int32) = nI 60 from rfl, cl_add 60 j (by omega), nI_1]
  split
  · rw [sLet_eq]; exact hk _ (qr_s h ⟨by omega, Or.inl (by omega)⟩ (by omega))
  · rw [sLet_eq]; exact hk _ (qr_s h ⟨by omega, Or.inl (by omega)⟩ (by omega))
theorem qr_17 : ∀ (n j : Nat) (R : SR), j ≤ 12 → QR R → QR (f_X6_tick_p17 n (nI j) R) := by
  intro n
  induction n with
  | zero => intro j R hj h; exact h
  | succ n ih =>
    intro j R hj h
    rw [f_X6_tick_p17]
    by_cases c : (12 : Int32) ≤ nI j
    · rw [if_pos c]
      have := qr_88 5 0 R (by omega) h
      rw [nI_0] at this
      exact this
    · rw [if_neg c]
      split
      · exact qr_55 (f_X6_tick_p17 n) (lt12 hj c) (fun R h => ih _ _ (lt12 hj c) h) _ _ _ h
      · exact qr_55 (f_X6_tick_p17 n) (lt12 hj c) (fun R h => ih _ _ (lt12 hj c) h) _ _ _ h
theorem qr_tick {R : SR} (h : QR R) : QR (f_X6_tick R) := by
  unfold f_X6_tick
  rw [if_pos (by rw [h.2.1]; decide)]
  have := qr_17 13 0 R (by omega) h
  rw [nI_0] at this
  exact this
theorem qr_row {R S : SR} (h : QR R) (e : S 0 = R 0) : QR S := by
  unfold QR
  rw [e]
  exact h
theorem qr_run (p : Int32) : ∀ (n : Nat) (x : Int32) (R : SR), QR R → (f_X6_run_p42 p n x R).1 = 0 := by
  intro n
  induction n with
  | zero => intro x R h; rfl
  | succ n ih =>
    intro x R h
    rw [f_X6_run_p42]
    by_cases c : p ≤ x
    · rw [if_pos c]; exact h.2.2.2
    · rw [if_neg c, sLet_eq]; exact ih _ _ (qr_tick h)
theorem qr_out {f : Nat} (hf : f < 4) (p : Int32) : ∀ (n : Nat) (x : Int32) (R : SR), QR R → (f_X6_outputIn_p30 (nI f) p n x R).1 = 0 := by
  intro n
  induction n with
  | zero => intro x R h; rfl
  | succ n ih =>
    intro x R h
    rw [f_X6_outputIn_p30]
    by_cases c : p ≤ x
    · rw [if_pos c, sLet_eq, show (136 : Int32) = nI 136 from rfl, cl_add 136 f (by omega)]; exact h.2.2.1 f hf
    · rw [if_neg c, sLet_eq]; exact ih _ _ (qr_tick h)
theorem qr_R0 : QR R0 := ⟨fun j hj => (by decide +kernel : ∀ j : Nat, j < 12 → rowMd (5 * j + 1) = 0) j hj, rfl, fun f hf => (by decide +kernel : ∀ f : Nat, f < 4 → rowMd (136 + f) = 0) f hf, rfl⟩
theorem cmp_run {i : Nat} {G : GR} {R : SR} (hV : INV i G R) (hi : i + 4 ≤ 4) (v1 : Int32) : (f_X5_run G v1).1 = (f_X6_run R v1).1 := by
  obtain ⟨rfl, rfl⟩ := hV (by omega)
  dsimp only [f_X5_run, f_X6_run, sLet]
  rw [ew]
  by_cases c1 : f_X6_in v1 1 100 = 0
  · rw [if_pos c1, if_pos c1]
  · rw [if_neg c1, if_neg c1]
    show (if (0 : Int32) + v1 ≤ 10000 then _ else _ : Int32 × GR).1 = (if (0 : Int32) + v1 ≤ 10000 then _ else _ : Int32 × SR).1
    by_cases c2 : (0 : Int32) + v1 ≤ 10000
    · rw [if_pos c2, if_pos c2, qr_run _ _ _ _ (qr_row (qr_row qr_R0 (S := sU R0 6 0 0) rfl) (act_0 _))]
      dsimp only
      rw [va_up_eq, keep_G0, f_X4_goOn]
      exact (ql_go v1 _ _ S0 ql_S0).2.2.1
    · rw [if_neg c2, if_neg c2]
theorem cmp_reset {i : Nat} {G : GR} {R : SR} (hV : INV i G R) (hi : i + 4 ≤ 4) : (f_X5_reset G).1 = (f_X6_reset R).1 := by
  obtain ⟨rfl, rfl⟩ := hV (by omega)
  dsimp only [f_X5_reset, f_X6_reset, sLet]
  rw [keep_G0, act_0]
  rfl
theorem cmp_undo {i : Nat} {G : GR} {R : SR} (hV : INV i G R) (hi : i + 4 ≤ 4) : (f_X5_undo G).1 = (f_X6_undo R).1 := by
  obtain ⟨rfl, rfl⟩ := hV (by omega)
  rw [f_X5_undo, if_pos (show (G0 7) 0 1 = 0 from rfl), f_X6_undo, sLet_eq, if_pos (show (sU R0 6 0 0) 6 1 = 0 from rfl)]
theorem cmp_append {i : Nat} {G : GR} {R : SR} (hV : INV i G R) (hi : i + 4 ≤ 4) (v1 : Int32) : (f_X5_append G v1).1 = (f_X6_append R v1).1 := by
  obtain ⟨rfl, rfl⟩ := hV (by omega)
  dsimp only [f_X5_append, f_X6_append, sLet]
  rw [ew]
  by_cases c1 : f_X6_in v1 1 255 = 0
  · rw [if_pos c1, if_pos c1]
  · rw [if_neg c1, if_neg c1, if_pos (show (G0 9) 1 0 < 140 from by decide), if_neg (show ¬ (sU R0 6 0 0) 6 2 = 140 from by decide)]
    dsimp only
    rw [va_up_eq, sU_eq]
    unfold f_X2_add
    first
    | rfl
    | (rw [if_pos (show (G0 9) 1 0 < 140 from by decide)]; rfl)
    | (rw [if_neg (show ¬ (140 : Int32) ≤ (G0 9) 1 0 from by decide)]; rfl)
theorem cmp_clearText {i : Nat} {G : GR} {R : SR} (hV : INV i G R) (hi : i + 4 ≤ 4) : (f_X5_clearText G).1 = (f_X6_clearText R).1 := by
  obtain ⟨rfl, rfl⟩ := hV (by omega)
  rfl
theorem cmp_load {i : Nat} {G : GR} {R : SR} (hV : INV i G R) (hi : i + 4 ≤ 4) : (f_X5_load G).1 = (f_X6_load R).1 := by
  obtain ⟨rfl, rfl⟩ := hV (by omega)
  exact fz_load
theorem cmp_count {i : Nat} {G : GR} {R : SR} (hV : INV i G R) (hi : i + 4 ≤ 4) (v1 : Int32) : f_X5_count G v1 = (f_X6_count R v1).1 := by
  obtain ⟨rfl, rfl⟩ := hV (by omega)
  by_cases c0 : v1 = 0
  · subst c0; exact fz_count 0 (by decide)
  by_cases c1 : v1 = 1
  · subst c1; exact fz_count 1 (by decide)
  by_cases c2 : v1 = 2
  · subst c2; exact fz_count 2 (by decide)
  by_cases c3 : v1 = 3
  · subst c3; exact fz_count 3 (by decide)
  by_cases c4 : v1 = 4
  · subst c4; exact fz_count 4 (by decide)
  by_cases c5 : v1 = 5
  · subst c5; exact fz_count 5 (by decide)
  by_cases c6 : v1 = 6
  · subst c6; exact fz_count 6 (by decide)
  by_cases c7 : v1 = 7
  · subst c7; exact fz_count 7 (by decide)
  by_cases c8 : v1 = 8
  · subst c8; exact fz_count 8 (by decide)
  by_cases c9 : v1 = 9
  · subst c9; exact fz_count 9 (by decide)
  by_cases c10 : v1 = 10
  · subst c10; exact fz_count 10 (by decide)
  rw [f_X5_count, f_X6_count, sLet_eq, if_neg c0, if_neg c1, if_neg c2, if_neg c3, if_neg c4, if_neg c5, if_neg c6, if_neg c7, if_neg c8, if_neg c9, if_neg c10, if_neg c0, if_neg c1, if_neg c2, if_neg c3, if_neg c4, if_neg c5, if_neg c6, if_neg c7, if_neg c8, if_neg c9, if_neg c10]
theorem cmp_channel {i : Nat} {G : GR} {R : SR} (hV : INV i G R) (hi : i + 4 ≤ 4) (v1 v2 : Int32) : f_X5_channel G v1 v2 = (f_X6_channel R v1 v2).1 := by
  obtain ⟨rfl, rfl⟩ := hV (by omega)
  by_cases c1 : f_X6_isChannel v1 = 0
  · rw [f_X5_channel, f_X6_channel, sLet_eq, e12, if_pos c1, if_pos c1]
  · by_cases c2 : f_X6_in v2 0 8 = 0
    · rw [f_X5_channel, f_X6_channel, sLet_eq, e12, if_neg c1, if_neg c1, if_pos c2, if_pos (show f_X5_isBelow v2 5 = 0 from in0_below (m := 8) 5 c2 (by omega) (by omega)), if_neg (show ¬ v2 = 5 from in0_ne (m := 8) 5 c2 (by omega) (by omega)), if_neg (show ¬ v2 = 6 from in0_ne (m := 8) 6 c2 (by omega) (by omega)), if_neg (show ¬ v2 = 7 from in0_ne (m := 8) 7 c2 (by omega) (by omega)), if_neg (show ¬ v2 = 8 from in0_ne (m := 8) 8 c2 (by omega) (by omega))]
    · obtain ⟨a, ha, rfl⟩ := vp_in_of (ch_vp c1) (by decide)
      obtain ⟨b, hb, rfl⟩ := vp_in_of (in_vp (n := 8) c2 (by decide)) (by decide)
      exact fz_ch a ha b hb
theorem cmp_group {i : Nat} {G : GR} {R : SR} (hV : INV i G R) (hi : i + 4 ≤ 4) (v1 v2 : Int32) : f_X5_group G v1 v2 = (f_X6_group R v1 v2).1 := by
  obtain ⟨rfl, rfl⟩ := hV (by omega)
  by_cases c1 : f_X6_isFour v1 = 0
  · rw [f_X5_group, f_X6_group, sLet_eq, e4, if_pos c1, if_pos c1]
  · by_cases c2 : f_X6_in v2 0 3 = 0
    · rw [f_X5_group, f_X6_group, sLet_eq, e4, if_neg c1, if_neg c1, if_pos c2, if_pos (show f_X5_isBelow v2 2 = 0 from in0_below (m := 3) 2 c2 (by omega) (by omega)), if_neg (show ¬ v2 = 2 from in0_ne (m := 3) 2 c2 (by omega) (by omega)), if_neg (show ¬ v2 = 3 from in0_ne (m := 3) 3 c2 (by omega) (by omega))]
    · obtain ⟨a, ha, rfl⟩ := vp_in_of (four_vp c1) (by decide)
      obtain ⟨b, hb, rfl⟩ := vp_in_of (in_vp (n := 3) c2 (by decide)) (by decide)
      exact fz_g a ha b hb
theorem cmp_feed {i : Nat} {G : GR} {R : SR} (hV : INV i G R) (hi : i + 4 ≤ 4) (v1 v2 : Int32) : f_X5_feed G v1 v2 = (f_X6_feed R v1 v2).1 := by
  obtain ⟨rfl, rfl⟩ := hV (by omega)
  by_cases c1 : f_X6_isFour v1 = 0
  · rw [f_X5_feed, f_X6_feed, sLet_eq, e4, if_pos c1, if_pos c1]
  · by_cases c2 : f_X6_in v2 0 3 = 0
    · rw [f_X5_feed, f_X6_feed, sLet_eq, e4, if_neg c1, if_neg c1, if_pos c2, if_neg (show ¬ v2 = 0 from in0_ne (m := 3) 0 c2 (by omega) (by omega)), if_neg (show ¬ v2 = 1 from in0_ne (m := 3) 1 c2 (by omega) (by omega)), if_neg (show ¬ v2 = 2 from in0_ne (m := 3) 2 c2 (by omega) (by omega)), if_neg (show ¬ v2 = 3 from in0_ne (m := 3) 3 c2 (by omega) (by omega))]
    · obtain ⟨a, ha, rfl⟩ := vp_in_of (four_vp c1) (by decide)
      obtain ⟨b, hb, rfl⟩ := vp_in_of (in_vp (n := 3) c2 (by decide)) (by decide)
      exact fz_f a ha b hb
theorem cmp_send {i : Nat} {G : GR} {R : SR} (hV : INV i G R) (hi : i + 4 ≤ 4) (v1 v2 v3 : Int32) : f_X5_send G v1 v2 v3 = (f_X6_send R v1 v2 v3).1 := by
  obtain ⟨rfl, rfl⟩ := hV (by omega)
  by_cases c1 : f_X6_isFour v1 = 0
  · rw [f_X5_send, f_X6_send, sLet_eq, e4, if_pos c1, if_pos c1]
  · by_cases c2 : f_X6_isChannel v2 = 0
    · rw [f_X5_send, f_X6_send, sLet_eq, e4, e12, if_neg c1, if_neg c1, if_pos c2, if_pos c2]
    · by_cases c3 : f_X6_in v3 0 1 = 0
      · rw [f_X5_send, f_X6_send, sLet_eq, e4, e12, if_neg c1, if_neg c1, if_neg c2, if_neg c2, if_pos c3, if_neg (show ¬ v3 = 0 from in0_ne (m := 1) 0 c3 (by omega) (by omega)), if_neg (show ¬ v3 = 1 from in0_ne (m := 1) 1 c3 (by omega) (by omega))]
      · obtain ⟨a, ha, rfl⟩ := vp_in_of (four_vp c1) (by decide)
        obtain ⟨b, hb, rfl⟩ := vp_in_of (ch_vp c2) (by decide)
        obtain ⟨d, hd, rfl⟩ := vp_in_of (in_vp (n := 1) c3 (by decide)) (by decide)
        exact fz_s a ha b hb d hd
theorem cmp_scene {i : Nat} {G : GR} {R : SR} (hV : INV i G R) (hi : i + 4 ≤ 4) (v1 v2 : Int32) : f_X5_scene G v1 v2 = (f_X6_scene R v1 v2).1 := by
  obtain ⟨rfl, rfl⟩ := hV (by omega)
  by_cases c1 : f_X6_isScene v1 = 0
  · rw [f_X5_scene, f_X6_scene, sLet_eq, e6, if_pos c1, if_pos c1]
  · by_cases c2 : f_X6_in v2 0 16 = 0
    · rw [f_X5_scene, f_X6_scene, sLet_eq, e6, bi v2 17 16 (by decide), if_neg c1, if_neg c1, if_pos c2, if_pos c2]
    · obtain ⟨a, ha, rfl⟩ := vp_in_of (scene_vp c1) (by decide)
      obtain ⟨b, hb, rfl⟩ := vp_in_of (in_vp (n := 16) c2 (by decide)) (by decide)
      exact fz_sc a ha b hb
theorem cmp_why {i : Nat} {G : GR} {R : SR} (hV : INV i G R) (hi : i + 4 ≤ 4) (v1 : Int32) : f_X5_why G v1 = (f_X6_why R v1).1 := by
  obtain ⟨rfl, rfl⟩ := hV (by omega)
  by_cases c1 : f_X6_isChannel v1 = 0
  · rw [f_X5_why, f_X6_why, sLet_eq, e12, if_pos c1, if_pos c1]
  · obtain ⟨a, ha, rfl⟩ := vp_in_of (ch_vp c1) (by decide)
    exact fz_w a ha
/-! no path on a silent desk -/
def QP (R : SR) : Prop := (∀ j : Nat, j < 12 → R 0 (5 * j + 1) = 0) ∧ R 6 7 = 0
theorem qp_goes {R : SR} (h : ∀ j : Nat, j < 12 → R 0 (5 * j + 1) = 0) {f b : Int32} (hw : vp_in (R 4 (R 6 5 - 1).toNatClampNeg) 12) : (f_X6_goes R f b).1 = 0 ∧ (f_X6_goes R f b).2 0 = R 0 ∧ (f_X6_goes R f b).2 6 7 = R 6 7 := by
  obtain ⟨j, hj, e⟩ := vp_in_of hw (by decide)
  have g : f_X6_gain R f (R 4 (R 6 5 - 1).toNatClampNeg) = 0 := by rw [e]; exact rg0 h hj
  unfold f_X6_goes
  rw [sLet_eq, if_pos g]
  exact ⟨rfl, rfl, rfl⟩
theorem qp_tries {R : SR} (h : QP R) {c a b d f : Int32} (hc : vp_in c 12) : QP (f_X6_tries R c a b d f) := by
  unfold f_X6_tries
  rw [sLet_eq, sLet_eq, sLet_eq]
  generalize hS : sU (sU (sU R 4 0 c) 6 5 1) 6 6 100 = S
  have s0 : S 0 = R 0 := by rw [← hS]; rfl
  have s7 : S 6 7 = 0 := by rw [← hS]; exact h.2
  have s5 : S 6 5 = 1 := by rw [← hS]; rfl
  have s40 : S 4 0 = c := by rw [← hS]; rfl
  have s4 : vp_in (S 4 (S 6 5 - 1).toNatClampNeg) 12 := by
    rw [s5, show ((1 : Int32) - 1).toNatClampNeg = 0 from by decide, s40]
    exact hc
  have h0 : ∀ j : Nat, j < 12 → S 0 (5 * j + 1) = 0 := fun j hj => by rw [s0]; exact h.1 j hj
  have hg : ∀ x y : Int32, (f_X6_goes S x y).1 = 0 ∧ QP (f_X6_goes S x y).2 := fun x y => by
    obtain ⟨g1, g2, g3⟩ := qp_goes h0 (f := x) (b := y) s4
    exact ⟨g1, fun j hj => by rw [g2]; exact h0 j hj, by rw [g3]; exact s7⟩
  have h62 : QP (f_X6_tries_p62 c a b d f S) := by
    unfold f_X6_tries_p62
    rw [sLet_eq, if_pos (hg f 1).1]
    exact (hg f 1).2
  have h46 : QP (f_X6_tries_p46 c a b d f S) := by
    unfold f_X6_tries_p46
    by_cases q : (4 : Int32) ≤ d
    · rw [if_pos q]; exact h62
    · rw [if_neg q, sLet_eq, if_pos (hg d 0).1]; exact (hg d 0).2
  have h32 : QP (f_X6_tries_p32 c a b d f S) := by
    unfold f_X6_tries_p32
    by_cases q : (4 : Int32) ≤ b
    · rw [if_pos q]; exact h46
    · rw [if_neg q, sLet_eq, if_pos (hg b 0).1]; exact (hg b 0).2
  by_cases q : (4 : Int32) ≤ a
  · rw [if_pos q]; exact h32
  · rw [if_neg q, sLet_eq, if_pos (hg a 0).1]; exact (hg a 0).2
theorem qp_30 {c f : Int32} (hc : vp_in c 12) (k1 : Int32 → SR → (Int32 × SR)) (k2 : Int32 → Int32 → SR → (Int32 × SR)) (h2 : ∀ (x y : Int32) (R : SR), QP R → (k2 x y R).1 = 0) : ∀ (n : Nat) (x y z : Int32) (R : SR), QP R → (f_X6_finds_p30 c f k1 k2 n x y z R).1 = 0 := by
  intro n
  induction n with
  | zero => intro x y z R h; rfl
  | succ n ih =>
    intro x y z R h
    rw [f_X6_finds_p30]
    by_cases q : (4 : Int32) < z
    · rw [if_pos q]; exact h2 _ _ _ h
    · rw [if_neg q]
      by_cases g : f_X6_areDifferent x y z f = 0
      · rw [if_pos g]; exact ih _ _ _ _ h
      · rw [if_neg g, sLet_eq]; exact ih _ _ _ _ (qp_tries h hc)
theorem qp_21 {c f : Int32} (hc : vp_in c 12) (k1 : Int32 → SR → (Int32 × SR)) (h1 : ∀ (x : Int32) (R : SR), QP R → (k1 x R).1 = 0) : ∀ (n : Nat) (x y : Int32) (R : SR), QP R → (f_X6_finds_p21 c f k1 n x y R).1 = 0 := by
  intro n
  induction n with
  | zero => intro x y R h; rfl
  | succ n ih =>
    intro x y R h
    rw [f_X6_finds_p21]
    by_cases q : (4 : Int32) < y
    · rw [if_pos q]; exact h1 _ _ h
    · rw [if_neg q]; exact qp_30 hc k1 _ ih 6 _ _ _ _ h
theorem qp_13 {c f : Int32} (hc : vp_in c 12) : ∀ (n : Nat) (x : Int32) (R : SR), QP R → (f_X6_finds_p13 c f n x R).1 = 0 := by
  intro n
  induction n with
  | zero => intro x R h; rfl
  | succ n ih =>
    intro x R h
    rw [f_X6_finds_p13]
    by_cases q : (4 : Int32) < x
    · rw [if_pos q, if_pos (by rw [h.2]; decide)]
    · rw [if_neg q]; exact qp_21 hc _ ih 6 _ _ _ h
theorem qp_finds {c f : Int32} (hc : vp_in c 12) : (f_X6_finds (sU R0 6 0 0) c f).1 = 0 := by
  unfold f_X6_finds
  rw [sLet_eq, sLet_eq]
  exact qp_13 hc 6 0 _ ⟨qr_R0.1, rfl⟩
theorem cmp_path {i : Nat} {G : GR} {R : SR} (hV : INV i G R) (hi : i + 4 ≤ 4) (v1 v2 v3 : Int32) : (f_X5_path G v1 v2 v3).1 = (f_X6_path R v1 v2 v3).1 := by
  obtain ⟨rfl, rfl⟩ := hV (by omega)
  dsimp only [f_X5_path, f_X6_path, sLet]
  rw [e12, e4]
  by_cases c1 : f_X6_isChannel v1 = 0
  · rw [if_pos c1, if_pos c1]
  · rw [if_neg c1, if_neg c1]
    by_cases c2 : f_X6_isFour v2 = 0
    · rw [if_pos c2, if_pos c2]
    · rw [if_neg c2, if_neg c2]
      by_cases c3 : (-1 : Int32) ≤ v3
      · rw [if_pos c3, if_pos c3, if_pos (qp_finds (ch_vp c1))]
        obtain ⟨a, ha, rfl⟩ := vp_in_of (ch_vp c1) (by decide)
        obtain ⟨b, hb, rfl⟩ := vp_in_of (four_vp c2) (by decide)
        show (f_X3_shortest (f_X3_survey Z0 S0) S0 (nI a) (nI b) v3).1 = -99
        unfold f_X3_shortest
        dsimp only [sLet]
        rw [if_pos (fz_pa a ha b hb)]
      · rw [if_neg c3, if_neg c3]
theorem cmp_loudest {i : Nat} {G : GR} {R : SR} (hV : INV i G R) (hi : i + 4 ≤ 4) (v1 v2 : Int32) : (f_X5_loudest G v1 v2).1 = (f_X6_loudest R v1 v2).1 := by
  obtain ⟨rfl, rfl⟩ := hV (by omega)
  dsimp only [f_X5_loudest, f_X6_loudest, sLet]
  rw [e12, e4]
  by_cases c1 : f_X6_isChannel v1 = 0
  · rw [if_pos c1, if_pos c1]
  · rw [if_neg c1, if_neg c1]
    by_cases c2 : f_X6_isFour v2 = 0
    · rw [if_pos c2, if_pos c2]
    · rw [if_neg c2, if_neg c2, if_pos (qp_finds (ch_vp c1))]
      obtain ⟨a, ha, rfl⟩ := vp_in_of (ch_vp c1) (by decide)
      obtain ⟨b, hb, rfl⟩ := vp_in_of (four_vp c2) (by decide)
      exact fz_lo a ha b hb
theorem cmp_loops {i : Nat} {G : GR} {R : SR} (hV : INV i G R) (hi : i + 4 ≤ 4) : (f_X5_loops G).1 = (f_X6_loops R).1 := by
  obtain ⟨rfl, rfl⟩ := hV (by omega)
  exact fz_loops
theorem cmp_hearers {i : Nat} {G : GR} {R : SR} (hV : INV i G R) (hi : i + 4 ≤ 4) (v1 : Int32) : (f_X5_hearers G v1).1 = (f_X6_hearers R v1).1 := by
  obtain ⟨rfl, rfl⟩ := hV (by omega)
  by_cases c1 : f_X6_isFour v1 = 0
  · rw [f_X5_hearers, e4, if_pos c1, f_X6_hearers, sLet_eq, if_pos c1]
  · obtain ⟨b, hb, rfl⟩ := vp_in_of (four_vp c1) (by decide)
    exact fz_he b hb
theorem cmp_outputIn {i : Nat} {G : GR} {R : SR} (hV : INV i G R) (hi : i + 4 ≤ 4) (v1 v2 : Int32) : (f_X5_outputIn G v1 v2).1 = (f_X6_outputIn R v1 v2).1 := by
  obtain ⟨rfl, rfl⟩ := hV (by omega)
  dsimp only [f_X5_outputIn, f_X6_outputIn, sLet]
  rw [e4, ew]
  by_cases c1 : f_X6_isFour v1 = 0
  · rw [if_pos c1, if_pos c1]
  · rw [if_neg c1, if_neg c1]
    by_cases c2 : f_X6_in v2 0 100 = 0
    · rw [if_pos c2, if_pos c2]
    · rw [if_neg c2, if_neg c2]
      obtain ⟨a, ha, rfl⟩ := vp_in_of (four_vp c1) (by decide)
      rw [qr_out ha _ _ _ _ (qr_row (qr_row qr_R0 (S := sU R0 6 0 0) rfl) (hold_r (by decide)))]
      dsimp only
      rw [va_up_eq, va_up_eq, show G0 0 = S0 from rfl, f_X4_goOn]
      exact (ql_go v2 _ _ S0 ql_S0).2.1 _
theorem cmp_cut {i : Nat} {G : GR} {R : SR} (hV : INV i G R) (hi : i + 4 ≤ 4) (v1 : Int32) : (f_X5_cut G v1).1 = (f_X6_cut R v1).1 := by
  obtain ⟨rfl, rfl⟩ := hV (by omega)
  by_cases c1 : f_X6_isFour v1 = 0
  · rw [f_X5_cut, e4, if_pos c1, f_X6_cut, sLet_eq, if_pos c1]
  · obtain ⟨b, hb, rfl⟩ := vp_in_of (four_vp c1) (by decide)
    exact fz_cu b hb
theorem wf_S0 : WF S0 := ⟨fun j hj => Or.inl ((by decide +kernel : ∀ j : Nat, j < 4 → S0 5 j = -1) j hj), vp_of_B (by decide +kernel)⟩
theorem wfg_G0 : WFG G0 := by
  refine ⟨fun k hk => ?_, vp_of_B (by decide +kernel), vp_of_B (by decide +kernel), vp_of_B (by decide +kernel)⟩
  have : G0 k = S0 := if_pos hk
  rw [this]
  exact wf_S0
theorem ra_R0 : RA R0 := fun j hj => Or.inl ((by decide +kernel : ∀ j : Nat, j < 4 → rowMd (84 + j) = -1) j hj)
theorem rs_R0 : RS R0 := fun h => absurd h (by decide +kernel)
theorem inv_none {i : Nat} {G : GR} {R : SR} (hV : INV i G R) : INV (i + 4) G R := fun h => absurd h (by omega)
theorem inv_wf {i : Nat} {G : GR} {R : SR} (hV : INV i G R) (hi : i + 4 ≤ 4) : WFG G ∧ RA R ∧ RS R ∧ vp_in (R 6 1) 6 ∧ vp_in (R 6 2) 141 := by
  obtain ⟨rfl, rfl⟩ := hV (by omega)
  exact ⟨wfg_G0, ra_R0, rs_R0, vp_of_B (by decide +kernel), vp_of_B (by decide +kernel)⟩
theorem inv_0 : INV 0 G0 R0 := fun _ => ⟨rfl, rfl⟩
theorem inv_setChannel {i : Nat} {G : GR} {R : SR} (hV : INV i G R) (hi : i + 4 ≤ 4) (v1 v2 v3 : Int32) (g0 : WFG ((f_X5_setChannel G v1 v2 v3).2)) (g1 : RA ((f_X6_setChannel R v1 v2 v3).2)) (g2 : RS ((f_X6_setChannel R v1 v2 v3).2)) : INV (i + 4) ((f_X5_setChannel G v1 v2 v3).2) ((f_X6_setChannel R v1 v2 v3).2) := fun h => absurd h (by omega)
theorem inv_setGroup {i : Nat} {G : GR} {R : SR} (hV : INV i G R) (hi : i + 4 ≤ 4) (v1 v2 v3 : Int32) (g0 : WFG ((f_X5_setGroup G v1 v2 v3).2)) (g1 : RA ((f_X6_setGroup R v1 v2 v3).2)) (g2 : RS ((f_X6_setGroup R v1 v2 v3).2)) : INV (i + 4) ((f_X5_setGroup G v1 v2 v3).2) ((f_X6_setGroup R v1 v2 v3).2) := fun h => absurd h (by omega)
theorem inv_setSend {i : Nat} {G : GR} {R : SR} (hV : INV i G R) (hi : i + 4 ≤ 4) (v1 v2 v3 : Int32) (g0 : WFG ((f_X5_setSend G v1 v2 v3).2)) (g1 : RA ((f_X6_setSend R v1 v2 v3).2)) (g2 : RS ((f_X6_setSend R v1 v2 v3).2)) : INV (i + 4) ((f_X5_setSend G v1 v2 v3).2) ((f_X6_setSend R v1 v2 v3).2) := fun h => absurd h (by omega)
theorem inv_setOwner {i : Nat} {G : GR} {R : SR} (hV : INV i G R) (hi : i + 4 ≤ 4) (v1 v2 v3 : Int32) (g0 : WFG ((f_X5_setOwner G v1 v2 v3).2)) (g1 : RA ((f_X6_setOwner R v1 v2 v3).2)) (g2 : RS ((f_X6_setOwner R v1 v2 v3).2)) : INV (i + 4) ((f_X5_setOwner G v1 v2 v3).2) ((f_X6_setOwner R v1 v2 v3).2) := fun h => absurd h (by omega)
theorem inv_setReturn {i : Nat} {G : GR} {R : SR} (hV : INV i G R) (hi : i + 4 ≤ 4) (v1 v2 : Int32) (g0 : WFG ((f_X5_setReturn G v1 v2).2)) (g1 : RA ((f_X6_setReturn R v1 v2).2)) (g2 : RS ((f_X6_setReturn R v1 v2).2)) : INV (i + 4) ((f_X5_setReturn G v1 v2).2) ((f_X6_setReturn R v1 v2).2) := fun h => absurd h (by omega)
theorem inv_store {i : Nat} {G : GR} {R : SR} (hV : INV i G R) (hi : i + 4 ≤ 4) (v1 : Int32) (g0 : WFG ((f_X5_store G v1).2)) (g1 : RA ((f_X6_store R v1).2)) (g2 : RS ((f_X6_store R v1).2)) : INV (i + 4) ((f_X5_store G v1).2) ((f_X6_store R v1).2) := fun h => absurd h (by omega)
theorem inv_recall {i : Nat} {G : GR} {R : SR} (hV : INV i G R) (hi : i + 4 ≤ 4) (v1 v2 : Int32) (g0 : WFG ((f_X5_recall G v1 v2).2)) (g1 : RA ((f_X6_recall R v1 v2).2)) (g2 : RS ((f_X6_recall R v1 v2).2)) : INV (i + 4) ((f_X5_recall G v1 v2).2) ((f_X6_recall R v1 v2).2) := fun h => absurd h (by omega)
theorem inv_run {i : Nat} {G : GR} {R : SR} (hV : INV i G R) (hi : i + 4 ≤ 4) (v1 : Int32) (g0 : WFG ((f_X5_run G v1).2)) (g1 : RA ((f_X6_run R v1).2)) (g2 : RS ((f_X6_run R v1).2)) : INV (i + 4) ((f_X5_run G v1).2) ((f_X6_run R v1).2) := fun h => absurd h (by omega)
theorem inv_reset {i : Nat} {G : GR} {R : SR} (hV : INV i G R) (hi : i + 4 ≤ 4) (g0 : WFG ((f_X5_reset G).2)) (g1 : RA ((f_X6_reset R).2)) (g2 : RS ((f_X6_reset R).2)) : INV (i + 4) ((f_X5_reset G).2) ((f_X6_reset R).2) := fun h => absurd h (by omega)
theorem inv_undo {i : Nat} {G : GR} {R : SR} (hV : INV i G R) (hi : i + 4 ≤ 4) (g0 : WFG ((f_X5_undo G).2)) : INV (i + 4) ((f_X5_undo G).2) ((f_X6_undo R).2) := fun h => absurd h (by omega)
theorem inv_append {i : Nat} {G : GR} {R : SR} (hV : INV i G R) (hi : i + 4 ≤ 4) (v1 : Int32) (g0 : WFG ((f_X5_append G v1).2)) : INV (i + 4) ((f_X5_append G v1).2) ((f_X6_append R v1).2) := fun h => absurd h (by omega)
theorem inv_clearText {i : Nat} {G : GR} {R : SR} (hV : INV i G R) (hi : i + 4 ≤ 4) (g0 : WFG ((f_X5_clearText G).2)) : INV (i + 4) ((f_X5_clearText G).2) ((f_X6_clearText R).2) := fun h => absurd h (by omega)
theorem inv_load {i : Nat} {G : GR} {R : SR} (hV : INV i G R) (hi : i + 4 ≤ 4) (g0 : WFG ((f_X5_load G).2)) (g1 : RA ((f_X6_load R).2)) (g2 : RS ((f_X6_load R).2)) : INV (i + 4) ((f_X5_load G).2) ((f_X6_load R).2) := fun h => absurd h (by omega)
theorem inv_count {i : Nat} {G : GR} {R : SR} (hV : INV i G R) (hi : i + 4 ≤ 4) (v1 : Int32) (g0 : RA ((f_X6_count R v1).2)) (g1 : RS ((f_X6_count R v1).2)) : INV (i + 4) (G) ((f_X6_count R v1).2) := fun h => absurd h (by omega)
theorem inv_channel {i : Nat} {G : GR} {R : SR} (hV : INV i G R) (hi : i + 4 ≤ 4) (v1 v2 : Int32) (g0 : RA ((f_X6_channel R v1 v2).2)) (g1 : RS ((f_X6_channel R v1 v2).2)) : INV (i + 4) (G) ((f_X6_channel R v1 v2).2) := fun h => absurd h (by omega)
theorem inv_group {i : Nat} {G : GR} {R : SR} (hV : INV i G R) (hi : i + 4 ≤ 4) (v1 v2 : Int32) (g0 : RA ((f_X6_group R v1 v2).2)) (g1 : RS ((f_X6_group R v1 v2).2)) : INV (i + 4) (G) ((f_X6_group R v1 v2).2) := fun h => absurd h (by omega)
theorem inv_feed {i : Nat} {G : GR} {R : SR} (hV : INV i G R) (hi : i + 4 ≤ 4) (v1 v2 : Int32) (g0 : RA ((f_X6_feed R v1 v2).2)) (g1 : RS ((f_X6_feed R v1 v2).2)) : INV (i + 4) (G) ((f_X6_feed R v1 v2).2) := fun h => absurd h (by omega)
theorem inv_send {i : Nat} {G : GR} {R : SR} (hV : INV i G R) (hi : i + 4 ≤ 4) (v1 v2 v3 : Int32) (g0 : RA ((f_X6_send R v1 v2 v3).2)) (g1 : RS ((f_X6_send R v1 v2 v3).2)) : INV (i + 4) (G) ((f_X6_send R v1 v2 v3).2) := fun h => absurd h (by omega)
theorem inv_scene {i : Nat} {G : GR} {R : SR} (hV : INV i G R) (hi : i + 4 ≤ 4) (v1 v2 : Int32) (g0 : RA ((f_X6_scene R v1 v2).2)) (g1 : RS ((f_X6_scene R v1 v2).2)) : INV (i + 4) (G) ((f_X6_scene R v1 v2).2) := fun h => absurd h (by omega)
theorem inv_why {i : Nat} {G : GR} {R : SR} (hV : INV i G R) (hi : i + 4 ≤ 4) (v1 : Int32) (g0 : RA ((f_X6_why R v1).2)) (g1 : RS ((f_X6_why R v1).2)) : INV (i + 4) (G) ((f_X6_why R v1).2) := fun h => absurd h (by omega)
theorem inv_path {i : Nat} {G : GR} {R : SR} (hV : INV i G R) (hi : i + 4 ≤ 4) (v1 v2 v3 : Int32) (g0 : WFG ((f_X5_path G v1 v2 v3).2)) (g1 : RA ((f_X6_path R v1 v2 v3).2)) (g2 : RS ((f_X6_path R v1 v2 v3).2)) : INV (i + 4) ((f_X5_path G v1 v2 v3).2) ((f_X6_path R v1 v2 v3).2) := fun h => absurd h (by omega)
theorem inv_loudest {i : Nat} {G : GR} {R : SR} (hV : INV i G R) (hi : i + 4 ≤ 4) (v1 v2 : Int32) (g0 : WFG ((f_X5_loudest G v1 v2).2)) (g1 : RA ((f_X6_loudest R v1 v2).2)) (g2 : RS ((f_X6_loudest R v1 v2).2)) : INV (i + 4) ((f_X5_loudest G v1 v2).2) ((f_X6_loudest R v1 v2).2) := fun h => absurd h (by omega)
theorem inv_loops {i : Nat} {G : GR} {R : SR} (hV : INV i G R) (hi : i + 4 ≤ 4) (g0 : WFG ((f_X5_loops G).2)) (g1 : RA ((f_X6_loops R).2)) (g2 : RS ((f_X6_loops R).2)) : INV (i + 4) ((f_X5_loops G).2) ((f_X6_loops R).2) := fun h => absurd h (by omega)
theorem inv_hearers {i : Nat} {G : GR} {R : SR} (hV : INV i G R) (hi : i + 4 ≤ 4) (v1 : Int32) (g0 : WFG ((f_X5_hearers G v1).2)) (g1 : RA ((f_X6_hearers R v1).2)) (g2 : RS ((f_X6_hearers R v1).2)) : INV (i + 4) ((f_X5_hearers G v1).2) ((f_X6_hearers R v1).2) := fun h => absurd h (by omega)
theorem inv_outputIn {i : Nat} {G : GR} {R : SR} (hV : INV i G R) (hi : i + 4 ≤ 4) (v1 v2 : Int32) (g0 : WFG ((f_X5_outputIn G v1 v2).2)) : INV (i + 4) ((f_X5_outputIn G v1 v2).2) ((f_X6_outputIn R v1 v2).2) := fun h => absurd h (by omega)
theorem inv_cut {i : Nat} {G : GR} {R : SR} (hV : INV i G R) (hi : i + 4 ≤ 4) (v1 : Int32) (g0 : WFG ((f_X5_cut G v1).2)) (g1 : RA ((f_X6_cut R v1).2)) (g2 : RS ((f_X6_cut R v1).2)) : INV (i + 4) ((f_X5_cut G v1).2) ((f_X6_cut R v1).2) := fun h => absurd h (by omega)
