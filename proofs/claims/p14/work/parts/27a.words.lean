def MS (R R1 : SR) : Prop := ms (vw R1) < ms (vw R)
theorem mn_ms {A B C : SR} (h : MN A B) (g : MS B C) : MS A C := Nat.lt_of_lt_of_le g h
theorem ms_mn {A B C : SR} (h : MS A B) (g : MN B C) : MS A C := Nat.lt_of_le_of_lt g h
theorem ms_incA {A R : SR} (h : MN A R) (hw : WFT R) (c : ¬ R 6 2 ≤ R 6 3) : MS A (sU R 6 3 (R 6 3 + 1)) := Nat.lt_of_lt_of_le (wft_ms hw c) h
theorem vw_eq {R R1 : SR} (h6 : R1 6 = R 6) (h3 : R1 3 = R 3) : vw R1 = vw R := by
  unfold vw
  rw [h6, h3]
theorem wft_eq {R R1 : SR} (h : WFT R) (h6 : R1 6 = R 6) (h3 : R1 3 = R 3) : WFT R1 := by
  unfold WFT
  rw [vw_eq h6 h3]
  exact h
theorem mn_eq {A R R1 : SR} (h : MN A R) (h6 : R1 6 = R 6) (h3 : R1 3 = R 3) : MN A R1 := by
  unfold MN
  rw [vw_eq h6 h3]
  exact h
theorem here_lt2 {R : SR} {r : Int32} (h : r = -1 ∨ ¬ R 6 2 ≤ R 6 3) (c : ¬ f_X6_partOf r = -99) : ¬ R 6 2 ≤ R 6 3 := by
  rcases h with h | h
  · exact absurd (by rw [h]; decide +kernel) c
  · exact h
theorem here_lt3 {R : SR} {r : Int32} (h : r = -1 ∨ ¬ R 6 2 ≤ R 6 3) (c : ¬ r < 0) : ¬ R 6 2 ≤ R 6 3 := by
  rcases h with h | h
  · exact absurd (by rw [h]; decide) c
  · exact h
theorem or_99 {x : Int32} {n : Nat} (h : x = -99 ∨ vp_in x n) (c : ¬ x = -99) : vp_in x n := h.resolve_left c
theorem snd_in {f c : Int32} (hf : vp_in f 4) (hc : vp_in c 12) : vp_in (88 + 12 * f + c) 289 := by
  obtain ⟨i, hi, e⟩ := vp_in_of hf (by decide)
  obtain ⟨j, hj, e2⟩ := vp_in_of hc (by decide)
  rw [e, e2]
  exact vp_of_B ((by decide +kernel : ∀ i : Nat, i < 4 → ∀ j : Nat, j < 12 → vp_okB (88 + 12 * nI i + nI j) 289 = true) i hi j hj)
theorem snd_okR {f c : Int32} (hf : vp_in f 4) (hc : vp_in c 12) : okR (88 + 12 * f + c).toNatClampNeg = true := by
  obtain ⟨i, hi, e⟩ := vp_in_of hf (by decide)
  obtain ⟨j, hj, e2⟩ := vp_in_of hc (by decide)
  rw [e, e2]
  exact (by decide +kernel : ∀ i : Nat, i < 4 → ∀ j : Nat, j < 12 → okR (88 + 12 * nI i + nI j).toNatClampNeg = true) i hi j hj
theorem snd_okT {f c : Int32} (hf : vp_in f 4) (hc : vp_in c 12) : okT (88 + 12 * f + c).toNatClampNeg = true := by
  obtain ⟨i, hi, e⟩ := vp_in_of hf (by decide)
  obtain ⟨j, hj, e2⟩ := vp_in_of hc (by decide)
  rw [e, e2]
  exact (by decide +kernel : ∀ i : Nat, i < 4 → ∀ j : Nat, j < 12 → okT (88 + 12 * nI i + nI j).toNatClampNeg = true) i hi j hj
def RQ (x : Int32) (R : SR) (n : Nat) : Prop := (x = 0 ∧ 0 < n) ∨ ms (vw R) + 1 < n
theorem rq_0 {x : Int32} {R : SR} (h : RQ x R 0) : False := by
  rcases h with h | h
  · exact absurd h.2 (Nat.lt_irrefl 0)
  · exact absurd h (Nat.not_lt_zero _)
theorem rq_in {x : Int32} {R : SR} (h : WFT R) : RQ x R 144 := Or.inr (by have := ms_lt h; omega)
theorem rq_back {x r : Int32} {R R1 R2 : SR} {n : Nat} (hx : ¬ x = 0) (h : RQ x R (n + 1)) (hm : MN R R1) (hr : r = 0 ∨ MS R1 R2) : RQ r R2 n := by
  rcases h with h | h
  · exact absurd h.1 hx
  · rcases hr with hr | hr
    · exact Or.inl ⟨hr, by omega⟩
    · exact Or.inr (by unfold MS at hr; unfold MN at hm; omega)
def WY (n : Nat) (R : SR) : Prop := ∃ w : Nat, 1 ≤ w ∧ w ≤ n ∧ R 6 5 = nI w ∧ ∀ j : Nat, j < w → vp_in (R 4 j) 12
theorem wy_up {n k : Nat} {R : SR} (h : WY n R) (hk : n ≤ k) : WY k R := by
  obtain ⟨w, h1, h2, h3, h4⟩ := h
  exact ⟨w, h1, Nat.le_trans h2 hk, h3, h4⟩
theorem wy_one {R : SR} {c : Int32} (hc : vp_in c 12) : WY 1 (sU (sU R 4 0 c) 6 5 1) :=
  ⟨1, Nat.le_refl 1, Nat.le_refl 1, rfl, fun j hj => by rcases (show j = 0 by omega) with rfl; exact hc⟩
theorem wy_last {R : SR} (h : WY 4 R) : vp_in (R 6 5 - 1) 4 ∧ vp_in (R 4 (R 6 5 - 1).toNatClampNeg) 12 := by
  obtain ⟨w, h1, h2, h3, h4⟩ := h
  have e : R 6 5 - 1 = nI (w - 1) := by
    rw [h3]
    rcases (show w = 1 ∨ w = 2 ∨ w = 3 ∨ w = 4 by omega) with rfl | rfl | rfl | rfl <;> rfl
  rw [e]
  exact ⟨vp_in_nI (by omega) (by decide), by rw [nI_clamp (by omega)]; exact h4 (w - 1) (by omega)⟩
theorem wy_in {R : SR} (h : WY 3 R) : vp_in (R 6 5) 4 := by
  obtain ⟨w, h1, h2, h3, h4⟩ := h
  rw [h3]; exact vp_in_nI (by omega) (by decide)
theorem wy_len {R : SR} (h : WY 4 R) : vp_in (R 6 5) 5 := by
  obtain ⟨w, h1, h2, h3, h4⟩ := h
  rw [h3]; exact vp_in_nI (by omega) (by decide)
theorem wy_push {n : Nat} {R : SR} (hn : n ≤ 4) (h : WY n R) {v : Int32} (hv : vp_in v 12) : WY (n + 1) (sU (sU R 4 (R 6 5).toNatClampNeg v) 6 5 (R 6 5 + 1)) := by
  obtain ⟨w, h1, h2, h3, h4⟩ := h
  refine ⟨w + 1, by omega, by omega, ?_, fun j hj => ?_⟩
  · show R 6 5 + 1 = _
    rw [h3, nI_1]
  · show vp_in (if j = (R 6 5).toNatClampNeg then v else R 4 j) 12
    rw [h3, nI_clamp (by omega)]
    by_cases e : j = w
    · rw [if_pos e]; exact hv
    · rw [if_neg e]; exact h4 j (by omega)
theorem wy_lt {R : SR} (h : WY 4 R) {x : Int32} {j : Nat} (ex : x = nI j) (hj : j < 2 ^ 31) (c : ¬ R 6 5 ≤ x) : j < 4 := by
  obtain ⟨w, h1, h2, h3, h4⟩ := h
  have := lp_ge ex h3 hj (by omega) c
  omega
theorem wy_ix {x : Int32} {j w : Nat} (ex : x = nI j) (hj : j < w) (hw : w ≤ 4) : vp_in x 4 := by
  rw [ex]; exact vp_in_nI (by omega) (by decide)
def BL (R : SR) : Prop := vp_in (R 6 7) 5
theorem bl_0 {R : SR} : BL (sU R 6 7 0) := (vp_of_B (by decide +kernel) : vp_in (0 : Int32) 5)
theorem bl_in {R : SR} (h : BL R) {x : Int32} (c1 : ¬ x < 0) (c2 : ¬ R 6 7 ≤ x) : vp_in x 4 := by
  obtain ⟨j, hj, e⟩ := vp_in_of h (by decide)
  obtain ⟨i, hi, e2⟩ := nI_of c1
  have := lp_ge e2 e hi (by omega) c2
  rw [e2]; exact vp_in_nI (by omega) (by decide)
theorem bl_in0 {R : SR} (h : BL R) {x : Int32} (c1 : 0 ≤ x) (c2 : x < R 6 7) : vp_in x 4 := bl_in h (Int32.not_lt.mpr c1) (Int32.not_le.mpr c2)
theorem ra_get {R : SR} (h : RA R) {p : Int32} (hp : vp_in p 4) (c : ¬ R 0 (84 + p).toNatClampNeg = -1) : vp_in (R 0 (84 + p).toNatClampNeg) 12 := by
  obtain ⟨j, hj, e⟩ := vp_in_of hp (by decide)
  have e2 : (84 + p).toNatClampNeg = 84 + j := by
    rw [e]; exact (by decide +kernel : ∀ j : Nat, j < 4 → (84 + nI j).toNatClampNeg = 84 + j) j hj
  rw [e2] at c ⊢
  exact (h j hj).resolve_left c
theorem cut_back {R R1 R2 R3 : SR} {i : Nat} (e1 : R1 = sU R 0 i 0) (h2 : R2 0 = R1 0) (e3 : R3 = sU R2 0 i (R 0 i)) : R3 0 = R 0 := by
  rw [e3]
  show upd (R2 0) i (R 0 i) = R 0
  rw [h2, e1]
  funext j
  show (if j = i then R 0 i else if j = i then 0 else R 0 j) = R 0 j
  by_cases e : j = i
  · rw [if_pos e, e]
  · rw [if_neg e, if_neg e]
theorem hold_p2 : ∀ (n k : Nat) (R : SR), k ≤ 289 → 289 < k + n → ∀ j : Nat, (f_X6_hold_p2 n (nI k) R) 1 j = if k ≤ j ∧ j < 289 then R 0 j else R 1 j := by
  intro n
  induction n with
  | zero => intro k R h1 h2; omega
  | succ n ih =>
    intro k R h1 h2 j
    rw [f_X6_hold_p2]
    by_cases c : (289 : Int32) ≤ nI k
    · rw [if_pos c]
      have : ¬ k < 289 := fun q => by
        rw [show (289 : Int32) = nI 289 from rfl, nI_leI (by omega) (by omega)] at c
        omega
      rw [if_neg (by omega)]
    · rw [if_neg c, sLet_eq, nI_1]
      have hk : k < 289 := lp_ge (x := nI k) rfl (show (289 : Int32) = nI 289 from rfl) (by omega) (by omega) c
      rw [ih (k + 1) _ (by omega) (by omega) j, nI_clamp (by omega)]
      show (if k + 1 ≤ j ∧ j < 289 then R 0 j else if j = k then R 0 k else R 1 j) = _
      by_cases e : j = k
      · subst e
        rw [if_neg (by omega), if_pos rfl, if_pos (by omega)]
      · by_cases q : k + 1 ≤ j ∧ j < 289
        · rw [if_pos q, if_pos (by omega)]
        · rw [if_neg q, if_neg e, if_neg (by omega)]
theorem hold_1 {R : SR} {j : Nat} (hj : j < 289) : (f_X6_hold R) 1 j = R 0 j := by
  rw [f_X6_hold, show (0 : Int32) = nI 0 from rfl, hold_p2 290 0 R (by omega) (by omega) j, if_pos (by omega)]
theorem hold_p2_0 : ∀ (n : Nat) (x : Int32) (R : SR) (r : Nat), r ≠ 1 → (f_X6_hold_p2 n x R) r = R r := by
  intro n
  induction n with
  | zero => intro x R r hr; rfl
  | succ n ih =>
    intro x R r hr
    rw [f_X6_hold_p2]
    by_cases c : (289 : Int32) ≤ x
    · rw [if_pos c]
    · rw [if_neg c, sLet_eq, ih _ _ r hr]
      exact if_neg hr
theorem hold_r {R : SR} {r : Nat} (hr : r ≠ 1) : (f_X6_hold R) r = R r := hold_p2_0 290 0 R r hr
theorem exch_p2 : ∀ (n k : Nat) (R : SR), k ≤ 289 → 289 < k + n → ∀ j : Nat, (f_X6_exchange_p2 n (nI k) R) 0 j = (if k ≤ j ∧ j < 289 then R 1 j else R 0 j) ∧ (f_X6_exchange_p2 n (nI k) R) 1 j = (if k ≤ j ∧ j < 289 then R 0 j else R 1 j) := by
  intro n
  induction n with
  | zero => intro k R h1 h2; omega
  | succ n ih =>
    intro k R h1 h2 j
    rw [f_X6_exchange_p2]
    by_cases c : (289 : Int32) ≤ nI k
    · rw [if_pos c]
      have : ¬ k < 289 := fun q => by
        rw [show (289 : Int32) = nI 289 from rfl, nI_leI (by omega) (by omega)] at c
        omega
      rw [if_neg (by omega), if_neg (by omega)]
      exact ⟨rfl, rfl⟩
    · rw [if_neg c, sLet_eq, sLet_eq, nI_1]
      have hk : k < 289 := lp_ge (x := nI k) rfl (show (289 : Int32) = nI 289 from rfl) (by omega) (by omega) c
      obtain ⟨i1, i2⟩ := ih (k + 1) (sU (sU R 0 (nI k).toNatClampNeg (R 1 (nI k).toNatClampNeg)) 1 (nI k).toNatClampNeg (R 0 (nI k).toNatClampNeg)) (by omega) (by omega) j
      rw [i1, i2, nI_clamp (by omega)]
      refine ⟨?_, ?_⟩
      · show (if k + 1 ≤ j ∧ j < 289 then (if j = k then R 0 k else R 1 j) else if j = k then R 1 k else R 0 j) = _
        by_cases e : j = k
        · subst e
          rw [if_neg (by omega), if_pos rfl, if_pos (by omega)]
        · rw [if_neg e, if_neg e]
          by_cases q : k + 1 ≤ j ∧ j < 289
          · rw [if_pos q, if_pos (by omega)]
          · rw [if_neg q, if_neg (by omega)]
      · show (if k + 1 ≤ j ∧ j < 289 then (if j = k then R 1 k else R 0 j) else if j = k then R 0 k else R 1 j) = _
        by_cases e : j = k
        · subst e
          rw [if_neg (by omega), if_pos rfl, if_pos (by omega)]
        · rw [if_neg e, if_neg e]
          by_cases q : k + 1 ≤ j ∧ j < 289
          · rw [if_pos q, if_pos (by omega)]
          · rw [if_neg q, if_neg (by omega)]
theorem exch_0 {R : SR} {j : Nat} (hj : j < 289) : (f_X6_exchange R) 0 j = R 1 j := by
  rw [f_X6_exchange, show (0 : Int32) = nI 0 from rfl, (exch_p2 290 0 R (by omega) (by omega) j).1, if_pos (by omega)]
theorem exch_1 {R : SR} {j : Nat} (hj : j < 289) : (f_X6_exchange R) 1 j = R 0 j := by
  rw [f_X6_exchange, show (0 : Int32) = nI 0 from rfl, (exch_p2 290 0 R (by omega) (by omega) j).2, if_pos (by omega)]
def RA1 (R : SR) : Prop := RA (fun _ => R 1)
def RS1 (R : SR) : Prop := RS (fun _ => R 1)
theorem ra_ex {R : SR} (h : RA1 R) : RA (f_X6_exchange R) := fun j hj => by rw [exch_0 (by omega)]; exact h j hj
theorem rs_ex {R : SR} (h : RS1 R) : RS (f_X6_exchange R) := by
  unfold RS
  rw [exch_0 (by omega), exch_0 (by omega)]
  exact h
theorem ra1_ex {R : SR} (h : RA R) : RA1 (f_X6_exchange R) := fun j hj => by
  show f_X6_exchange R 1 (84 + j) = -1 ∨ vp_in (f_X6_exchange R 1 (84 + j)) 12
  rw [exch_1 (by omega)]; exact h j hj
theorem rs1_ex {R : SR} (h : RS R) : RS1 (f_X6_exchange R) := by
  unfold RS1 RS
  show 0 ≤ f_X6_exchange R 1 144 → ¬ f_X6_exchange R 1 145 = 0
  rw [exch_1 (by omega), exch_1 (by omega)]
  exact h
theorem ra1_hold {R : SR} (h : RA R) : RA1 (f_X6_hold R) := fun j hj => by
  show f_X6_hold R 1 (84 + j) = -1 ∨ vp_in (f_X6_hold R 1 (84 + j)) 12
  rw [hold_1 (by omega)]; exact h j hj
theorem rs1_hold {R : SR} (h : RS R) : RS1 (f_X6_hold R) := by
  unfold RS1 RS
  show 0 ≤ f_X6_hold R 1 144 → ¬ f_X6_hold R 1 145 = 0
  rw [hold_1 (by omega), hold_1 (by omega)]
  exact h
theorem ra1_eq {R R1 : SR} (h : RA1 R) (e : R1 1 = R 1) : RA1 R1 := by
  unfold RA1
  rw [e]
  exact h
theorem rs1_eq {R R1 : SR} (h : RS1 R) (e : R1 1 = R 1) : RS1 R1 := by
  unfold RS1
  rw [e]
  exact h
