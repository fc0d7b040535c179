/-! p29, 8: the shortest path -/
def DS (A : Nat → Nat) (m t L x : Nat) : Prop := (x = 0 ∧ ∀ j : Nat, j < L → ¬ WK A j m t) ∨ ∃ j : Nat, j < L ∧ x = j + 1 ∧ WK A j m t ∧ ∀ i : Nat, i < j → ¬ WK A i m t
/-- a way of j + 1 steps and none shorter -/
def LEA (A : Nat → Nat) (m t j : Nat) : Prop := WK A j m t ∧ ∀ i : Nat, i < j → ¬ WK A i m t
theorem ds_le {A : Nat → Nat} {m t L x j : Nat} (h : DS A m t L x) (hj : j < L) : x = j + 1 ↔ LEA A m t j := by
  constructor
  · intro e
    rcases h with ⟨z, -⟩ | ⟨i, i1, i2, i3, i4⟩
    · omega
    · have : i = j := by omega
      subst this; exact ⟨i3, i4⟩
  · rintro ⟨h1, h2⟩
    rcases h with ⟨-, z⟩ | ⟨i, i1, i2, i3, i4⟩
    · exact absurd h1 (z j hj)
    · rcases Nat.lt_trichotomy i j with e | e | e
      · exact absurd i3 (h2 i e)
      · omega
      · exact absurd h1 (i4 j e)
theorem ds_up {A : Nat → Nat} {m t L x : Nat} (h : DS A m t L x) (h0 : ¬ x = 0) : DS A m t (L + 1) x := by
  rcases h with ⟨z, -⟩ | ⟨i, i1, i2⟩
  · exact absurd z h0
  · exact Or.inr ⟨i, by omega, i2⟩
theorem ds_new {A : Nat → Nat} {m t L : Nat} (h : DS A m t L 0) (hw : WK A L m t) : DS A m t (L + 1) (L + 1) := by
  rcases h with ⟨-, z⟩ | ⟨i, i1, i2, -⟩
  · exact Or.inr ⟨L, by omega, rfl, hw, z⟩
  · omega
theorem ds_no {A : Nat → Nat} {m t L : Nat} (h : DS A m t L 0) (hw : ¬ WK A L m t) : DS A m t (L + 1) 0 := by
  rcases h with ⟨-, z⟩ | ⟨i, i1, i2, -⟩
  · refine Or.inl ⟨rfl, fun j hj => ?_⟩
    by_cases e : j = L
    · subst e; exact hw
    · exact z j (by omega)
  · omega
theorem wk_zero {A : Nat → Nat} {k t : Nat} : ¬ WK A k 0 t := by
  have z : ∀ f : Nat, ¬ bt 0 f := fun f hf => by
    unfold bt at hf
    rw [Nat.zero_div] at hf
    exact absurd hf (by decide)
  cases k with
  | zero => exact z t
  | succ k => rintro ⟨f, -, h, -⟩; exact z f h
/-- the next channel at a distance -/
def NV (M T : SR) (c : Nat) (p : Int32) (g : Nat) : Prop := bt (mkm M c) g ∧ ¬ M 5 g < 0 ∧ T 1 (M 5 g).toNatClampNeg = p
def VAL (M T : SR) (c : Nat) (p x : Int32) : Prop := ∃ g : Nat, g < 4 ∧ NV M T c p g ∧ M 5 g = x
theorem nx_loop {M T : SR} (h : SAN M) {c : Nat} (hc : c < 12) (hT : T 0 c = nI (mkm M c)) (p : Int32) : ∀ (n f : Nat) (x : Int32), n + f = 5 → f ≤ 4 → ((x = -1 ∧ ∀ g : Nat, g < f → ¬ NV M T c p g) ∨ VAL M T c p x) → (f_X3_nextAt_p5 T M (nI c) p n x (nI f) = -1 ∧ ∀ g : Nat, g < 4 → ¬ NV M T c p g) ∨ VAL M T c p (f_X3_nextAt_p5 T M (nI c) p n x (nI f)) := by
  intro n
  induction n with
  | zero => intro f x hn hf; omega
  | succ n ih =>
    intro f x hn hf hx
    rw [f_X3_nextAt_p5]
    by_cases q4 : (4 : Int32) ≤ nI f
    · have e : f = 4 := by
        have := (nI_leI (a := 4) (b := f) (by omega) (by omega)).mp q4
        omega
      subst e
      rw [if_pos q4]; exact hx
    · have q : f < 4 := lp_ge (x := nI f) rfl (show (4 : Int32) = nI 4 from rfl) (by omega) (by omega) q4
      have skip : ¬ NV M T c p f → ((x = -1 ∧ ∀ g : Nat, g < f + 1 → ¬ NV M T c p g) ∨ VAL M T c p x) := fun hn => by
        rcases hx with ⟨x1, x2⟩ | x1
        · refine Or.inl ⟨x1, fun g hg => ?_⟩
          by_cases e : g = f
          · subst e; exact hn
          · exact x2 g (by omega)
        · exact Or.inr x1
      rw [if_neg q4, nI_1, nI_clamp (show c < 2 ^ 31 by omega), nI_clamp (show f < 2 ^ 31 by omega), hT]
      by_cases d : f_X5_hasBit (nI (mkm M c)) (nI f) = 0
      · rw [if_pos d]
        exact ih (f + 1) x (by omega) (by omega) (skip (fun z => (hb4 _ (mkm_lt M c) f q).mp d z.1))
      · rw [if_neg d]
        have db : bt (mkm M c) f := by
          by_cases z : bt (mkm M c) f
          · exact z
          · exact absurd ((hb4 _ (mkm_lt M c) f q).mpr z) d
        by_cases d2 : M 5 f < 0
        · rw [if_pos d2]
          exact ih (f + 1) x (by omega) (by omega) (skip (fun z => z.2.1 d2))
        · rw [if_neg d2]
          by_cases d3 : T 1 (M 5 f).toNatClampNeg = p
          · have hv : VAL M T c p (M 5 f) := ⟨f, q, ⟨db, d2, d3⟩, rfl⟩
            rw [if_pos d3]
            by_cases d4 : x < 0
            · rw [if_pos d4]; exact ih (f + 1) _ (by omega) (by omega) (Or.inr hv)
            · rw [if_neg d4]
              by_cases d5 : x ≤ M 5 f
              · rw [if_pos d5]
                refine ih (f + 1) x (by omega) (by omega) ?_
                rcases hx with ⟨x1, -⟩ | x1
                · rw [x1] at d4; exact absurd (by decide) d4
                · exact Or.inr x1
              · rw [if_neg d5]; exact ih (f + 1) _ (by omega) (by omega) (Or.inr hv)
          · rw [if_neg d3]
            exact ih (f + 1) x (by omega) (by omega) (skip (fun z => d3 z.2.2))
theorem nx_spec {M T : SR} (h : SAN M) {c : Nat} (hc : c < 12) (hT : T 0 c = nI (mkm M c)) (p : Int32) : (f_X3_nextAt T M (nI c) p = -1 ∧ ∀ g : Nat, g < 4 → ¬ NV M T c p g) ∨ VAL M T c p (f_X3_nextAt T M (nI c) p) := by
  rw [f_X3_nextAt]
  have e := nx_loop h hc hT p 5 0 (-1) (by omega) (by omega) (Or.inl ⟨rfl, fun g hg => by omega⟩)
  rw [nI_0] at e
  exact e
/-- within a round of the measure: ways of l + 2 steps are sought -/
def MEA (M : SR) (t l c : Nat) (T : SR) : Prop := (∀ k : Nat, k < 12 → T 0 k = nI (mkm M k)) ∧ ∀ k : Nat, k < 12 → ∃ x : Nat, T 1 k = nI x ∧ x ≤ 4 ∧ (k < c → DS (Af M) (mkm M k) t (l + 2) x) ∧ (c ≤ k → DS (Af M) (mkm M k) t (l + 1) x)
theorem af_eq {M : SR} (h : SAN M) {g : Nat} (hg : g < 4) (hn : ¬ M 5 g < 0) : ∃ j : Nat, j < 12 ∧ M 5 g = nI j ∧ Af M g = mkm M j := by
  rcases (s_5 h).1 g hg with e | ⟨j, j1, j2⟩
  · exact absurd (by rw [e]; decide) hn
  · refine ⟨j, by omega, j2, ?_⟩
    unfold Af
    rw [if_neg hn, j2, nI_clamp (by omega)]
/-- a next one stands at a distance where a way goes on -/
theorem nv_wk {M T : SR} (h : SAN M) {t l c : Nat} (hl : l ≤ 2) (hm : MEA M t l c T) {k : Nat} (h0 : DS (Af M) (mkm M k) t (l + 1) 0) : (∃ g : Nat, g < 4 ∧ NV M T k (nI (l + 1)) g) ↔ WK (Af M) (l + 1) (mkm M k) t := by
  have hle : ∀ k : Nat, k < 12 → (T 1 k = nI (l + 1) ↔ LEA (Af M) (mkm M k) t l) := fun k hk => by
    obtain ⟨x, x1, x2, x3, x4⟩ := hm.2 k hk
    rw [x1, nI_eq (by omega) (by omega)]
    by_cases q : k < c
    · exact ds_le (x3 q) (by omega)
    · exact ds_le (x4 (by omega)) (by omega)
  constructor
  · rintro ⟨g, hg, n1, n2, n3⟩
    obtain ⟨j, j1, j2, j3⟩ := af_eq h hg n2
    rw [j2, nI_clamp (by omega)] at n3
    exact ⟨g, hg, n1, by rw [j3]; exact ((hle j j1).mp n3).1⟩
  · rintro ⟨g, hg, n1, n2⟩
    have hn : ¬ M 5 g < 0 := fun z => by
      have e : Af M g = 0 := if_pos z
      rw [e] at n2
      exact wk_zero n2
    obtain ⟨j, j1, j2, j3⟩ := af_eq h hg hn
    refine ⟨g, hg, n1, hn, ?_⟩
    rw [j2, nI_clamp (by omega), hle j j1, ← j3]
    refine ⟨n2, fun i hi hw => ?_⟩
    rcases h0 with ⟨-, z⟩ | ⟨i', i1, i2, -⟩
    · exact z (i + 1) (by omega) ⟨g, hg, n1, hw⟩
    · omega
theorem me_47 {M : SR} (h : SAN M) (p1 : Int32) (kb : Int32 → SR → SR) {t l : Nat} (hl : l ≤ 2) : ∀ (n c : Nat) (T : SR), n + c = 13 → c ≤ 12 → MEA M t l c T → ∃ T' : SR, f_X3_measure_p47 M p1 kb n (nI (l + 2)) (nI c) T = kb (nI (l + 3)) T' ∧ MEA M t l 12 T' ∧ ∀ r : Nat, r ≠ 1 → T' r = T r := by
  intro n
  induction n with
  | zero => intro c T hn hc; omega
  | succ n ih =>
    intro c T hn hc hm
    rw [f_X3_measure_p47]
    by_cases q12 : (12 : Int32) ≤ nI c
    · have e : c = 12 := by
        have := (nI_leI (a := 12) (b := c) (by omega) (by omega)).mp q12
        omega
      subst e
      rw [if_pos q12, nI_1]
      exact ⟨T, rfl, hm, fun _ _ => rfl⟩
    · have q : c < 12 := lp_ge (x := nI c) rfl (show (12 : Int32) = nI 12 from rfl) (by omega) (by omega) q12
      obtain ⟨x, x1, x2, x3, x4⟩ := hm.2 c q
      have x5 := x4 (Nat.le_refl c)
      have same : ∀ y : Nat, y = x → DS (Af M) (mkm M c) t (l + 2) y → MEA M t l (c + 1) T := fun y hy hd => ⟨hm.1, fun k hk => by
        obtain ⟨z, z1, z2, z3, z4⟩ := hm.2 k hk
        refine ⟨z, z1, z2, fun hkc => ?_, fun hck => z4 (by omega)⟩
        by_cases e : k = c
        · subst e
          have : z = x := (nI_eq (by omega) (by omega)).mp (z1.symm.trans x1)
          rw [this, ← hy]; exact hd
        · exact z3 (by omega)⟩
      rw [if_neg q12, nI_1, nI_clamp (show c < 2 ^ 31 by omega)]
      by_cases d : T 1 c = 0
      · have hx : x = 0 := (nI_eq (a := x) (b := 0) (by omega) (by omega)).mp (x1.symm.trans d)
        rw [hx] at x5
        have hw := nv_wk h hl hm x5
        rw [if_pos d, show nI (l + 2) - 1 = nI (l + 1) from nI_pred (l + 1)]
        by_cases d2 : f_X3_nextAt T M (nI c) (nI (l + 1)) < 0
        · rw [if_pos d2]
          refine ih (c + 1) T (by omega) (by omega) (same 0 hx.symm (ds_no x5 (fun z => ?_)))
          obtain ⟨g, hg, hv⟩ := hw.mpr z
          rcases nx_spec h q (hm.1 c q) (nI (l + 1)) with ⟨-, a2⟩ | ⟨g', g1, g2, g3⟩
          · exact a2 g hg hv
          · rw [← g3] at d2; exact g2.2.1 d2
        · rw [if_neg d2, sLet_eq]
          have hy : DS (Af M) (mkm M c) t (l + 2) (l + 2) := by
            refine ds_new x5 (hw.mp ?_)
            rcases nx_spec h q (hm.1 c q) (nI (l + 1)) with ⟨a1, -⟩ | ⟨g', g1, g2, g3⟩
            · rw [a1] at d2; exact absurd (by decide) d2
            · exact ⟨g', g1, g2⟩
          obtain ⟨T', e1, e2, e3⟩ := ih (c + 1) (sU T 1 c (nI (l + 2))) (by omega) (by omega) ⟨fun k hk => by rw [sU_row (by decide)]; exact hm.1 k hk, fun k hk => by
            by_cases e : k = c
            · subst e
              exact ⟨l + 2, sU_eq, by omega, fun _ => hy, fun z => by omega⟩
            · obtain ⟨z, z1, z2, z3, z4⟩ := hm.2 k hk
              exact ⟨z, by rw [sU_ne e]; exact z1, z2, fun hkc => z3 (by omega), fun hck => z4 (by omega)⟩⟩
          exact ⟨T', e1, e2, fun r hr => (e3 r hr).trans (sU_row hr)⟩
      · rw [if_neg d]
        refine ih (c + 1) T (by omega) (by omega) (same x rfl (ds_up x5 (fun z => d ?_)))
        rw [x1, z, nI_0]
theorem me_next {M T : SR} {t l : Nat} (hm : MEA M t l 12 T) : MEA M t (l + 1) 0 T := ⟨hm.1, fun k hk => by
  obtain ⟨z, z1, z2, z3, z4⟩ := hm.2 k hk
  exact ⟨z, z1, z2, fun q => by omega, fun _ => z3 hk⟩⟩
/-- measured -/
def MD (M : SR) (t : Nat) (T : SR) : Prop := (∀ k : Nat, k < 12 → T 0 k = nI (mkm M k)) ∧ ∀ k : Nat, k < 12 → ∃ x : Nat, T 1 k = nI x ∧ x ≤ 4 ∧ DS (Af M) (mkm M k) t 4 x
theorem me_40 {M T : SR} (h : SAN M) (p1 : Int32) {t : Nat} (hm : MEA M t 0 0 T) : MD M t (f_X3_measure_p40 M p1 6 2 T) ∧ ∀ r : Nat, r ≠ 1 → (f_X3_measure_p40 M p1 6 2 T) r = T r := by
  obtain ⟨T1, a1, a2, a3⟩ := me_47 h p1 (f_X3_measure_p40 M p1 5) (t := t) (l := 0) (by omega) 13 0 T (by omega) (by omega) hm
  obtain ⟨T2, b1, b2, b3⟩ := me_47 h p1 (f_X3_measure_p40 M p1 4) (t := t) (l := 1) (by omega) 13 0 T1 (by omega) (by omega) (me_next a2)
  obtain ⟨T3, c1, c2, c3⟩ := me_47 h p1 (f_X3_measure_p40 M p1 3) (t := t) (l := 2) (by omega) 13 0 T2 (by omega) (by omega) (me_next b2)
  rw [nI_0] at a1 b1 c1
  have e : f_X3_measure_p40 M p1 6 2 T = T3 := by
    rw [f_X3_measure_p40, if_neg (by decide), show (2 : Int32) = nI (0 + 2) from rfl, a1, f_X3_measure_p40, if_neg (by decide), show nI (0 + 3) = nI (1 + 2) from rfl, b1, f_X3_measure_p40, if_neg (by decide), show nI (1 + 3) = nI (2 + 2) from rfl, c1, f_X3_measure_p40, if_pos (by decide)]
  rw [e]
  refine ⟨⟨c2.1, fun k hk => ?_⟩, fun r hr => (c3 r hr).trans ((b3 r hr).trans (a3 r hr))⟩
  obtain ⟨z, z1, z2, z3, z4⟩ := c2.2 k hk
  exact ⟨z, z1, z2, z3 hk⟩
theorem me_2 {M : SR} (h : SAN M) {t : Nat} (ht : t < 4) : ∀ (n c : Nat) (T : SR), n + c = 13 → c ≤ 12 → (∀ k : Nat, k < 12 → T 0 k = nI (mkm M k)) → (∀ k : Nat, k < c → ∃ x : Nat, T 1 k = nI x ∧ x ≤ 4 ∧ DS (Af M) (mkm M k) t 1 x) → MD M t (f_X3_measure_p2 M (nI t) n (nI c) T) ∧ ∀ r : Nat, r ≠ 1 → (f_X3_measure_p2 M (nI t) n (nI c) T) r = T r := by
  intro n
  induction n with
  | zero => intro c T hn hc; omega
  | succ n ih =>
    intro c T hn hc h0 h1
    rw [f_X3_measure_p2]
    by_cases q12 : (12 : Int32) ≤ nI c
    · have e : c = 12 := by
        have := (nI_leI (a := 12) (b := c) (by omega) (by omega)).mp q12
        omega
      subst e
      rw [if_pos q12]
      exact me_40 h (nI t) ⟨h0, fun k hk => by
        obtain ⟨x, x1, x2, x3⟩ := h1 k hk
        exact ⟨x, x1, x2, fun z => by omega, fun _ => x3⟩⟩
    · have q : c < 12 := lp_ge (x := nI c) rfl (show (12 : Int32) = nI 12 from rfl) (by omega) (by omega) q12
      have go : ∀ x : Nat, x ≤ 4 → DS (Af M) (mkm M c) t 1 x → MD M t (f_X3_measure_p2 M (nI t) n (nI (c + 1)) (sU T 1 c (nI x))) ∧ ∀ r : Nat, r ≠ 1 → (f_X3_measure_p2 M (nI t) n (nI (c + 1)) (sU T 1 c (nI x))) r = T r := fun x hx hd => by
        obtain ⟨i1, i2⟩ := ih (c + 1) (sU T 1 c (nI x)) (by omega) (by omega) (fun k hk => by rw [sU_row (by decide)]; exact h0 k hk) (fun k hk => by
          by_cases e : k = c
          · subst e; exact ⟨x, sU_eq, hx, hd⟩
          · obtain ⟨y, y1, y2⟩ := h1 k (by omega)
            exact ⟨y, by rw [sU_ne e]; exact y1, y2⟩)
        exact ⟨i1, fun r hr => (i2 r hr).trans (sU_row hr)⟩
      rw [if_neg q12, nI_1, nI_clamp (show c < 2 ^ 31 by omega), h0 c q]
      by_cases d : f_X5_hasBit (nI (mkm M c)) (nI t) = 0
      · rw [if_pos d, sLet_eq]
        have := go 0 (by omega) (Or.inl ⟨rfl, fun j hj hw => by
          have : j = 0 := by omega
          subst this
          exact (hb4 _ (mkm_lt M c) t ht).mp d hw⟩)
        rw [nI_0] at this
        exact this
      · rw [if_neg d, sLet_eq]
        have hb : bt (mkm M c) t := by
          by_cases z : bt (mkm M c) t
          · exact z
          · exact absurd ((hb4 _ (mkm_lt M c) t ht).mpr z) d
        exact go 1 (by omega) (Or.inr ⟨0, by omega, rfl, hb, fun i hi => by omega⟩)
theorem measured {M T : SR} (h : SAN M) {t : Nat} (ht : t < 4) (hT : ∀ k : Nat, k < 12 → T 0 k = nI (mkm M k)) : MD M t (f_X3_measure T M (nI t)) ∧ ∀ r : Nat, r ≠ 1 → (f_X3_measure T M (nI t)) r = T r := by
  rw [f_X3_measure]
  have e := me_2 h ht 13 0 T (by omega) (by omega) hT (fun k hk => by omega)
  rw [nI_0] at e
  exact e
/-- down the distances -/
theorem sh_43 {M T : SR} (h : SAN M) {t : Nat} (hm : MD M t T) (p1 p2 : Int32) {x : Nat} (hx : 1 ≤ x) (hx4 : x ≤ 4) : ∀ (l c : Nat), l < x → c < 12 → T 1 c = nI (l + 1) → ∃ e : Nat, e < 12 ∧ f_X3_shortest_p43 M p1 p2 (nI (x - 1)) (l + 1) (nI x) (nI c) (nI l) T = (nI e, T) ∧ bt (mkm M e) t := by
  intro l
  induction l with
  | zero =>
    intro c hl hc h1
    obtain ⟨y, y1, y2, y3⟩ := hm.2 c hc
    have hy : y = 0 + 1 := (nI_eq (by omega) (by omega)).mp (y1.symm.trans h1)
    have hw := (ds_le y3 (j := 0) (by omega)).mp hy
    rw [f_X3_shortest_p43, nI_sub (by omega), show x - (x - 1) = 1 by omega, if_pos (show nI 0 < nI 1 by decide)]
    exact ⟨c, hc, rfl, hw.1⟩
  | succ l ih =>
    intro c hl hc h1
    obtain ⟨y, y1, y2, y3⟩ := hm.2 c hc
    have hy : y = l + 1 + 1 := (nI_eq (by omega) (by omega)).mp (y1.symm.trans h1)
    have hw := (ds_le y3 (j := l + 1) (by omega)).mp hy
    have hnv : ∃ g : Nat, g < 4 ∧ NV M T c (nI (l + 1)) g := by
      obtain ⟨⟨g, hg, g1, g2⟩, g3⟩ := hw
      have hn : ¬ M 5 g < 0 := fun z => by
        have e : Af M g = 0 := if_pos z
        rw [e] at g2
        exact wk_zero g2
      obtain ⟨j, j1, j2, j3⟩ := af_eq h hg hn
      obtain ⟨z, z1, z2, z3⟩ := hm.2 j j1
      refine ⟨g, hg, g1, hn, ?_⟩
      rw [j2, nI_clamp (by omega), z1, nI_eq (by omega) (by omega)]
      refine (ds_le z3 (j := l) (by omega)).mpr ?_
      rw [← j3]
      exact ⟨g2, fun i hi hwi => g3 (i + 1) (by omega) ⟨g, hg, g1, hwi⟩⟩
    rw [f_X3_shortest_p43, nI_sub (by omega), show x - (x - 1) = 1 by omega, if_neg (show ¬ nI (l + 1) < nI 1 from nI_nlt (by omega) (by omega))]
    rcases nx_spec h hc (hm.1 c hc) (nI (l + 1)) with ⟨-, a2⟩ | ⟨g, g1, g2, g3⟩
    · obtain ⟨g, hg, hv⟩ := hnv
      exact absurd hv (a2 g hg)
    · obtain ⟨j, j1, j2, -⟩ := af_eq h g1 g2.2.1
      rw [← g3, j2, if_pos (nI_pos' (by omega)), show nI (l + 1) + -1 = nI l from by rw [← nI_pred l, Int32.sub_eq_add_neg]]
      refine ih j (by omega) j1 ?_
      have := g2.2.2
      rw [j2, nI_clamp (by omega)] at this
      exact this
theorem ds_uniq {A : Nat → Nat} {m t L x y : Nat} (h : DS A m t L x) (g : DS A m t L y) : x = y := by
  rcases h with ⟨a, b⟩ | ⟨j, j1, j2, j3, j4⟩
  · rcases g with ⟨c, -⟩ | ⟨k, k1, -, k3, -⟩
    · omega
    · exact absurd k3 (b k k1)
  · rcases g with ⟨-, d⟩ | ⟨k, k1, k2, k3, k4⟩
    · exact absurd j3 (d j j1)
    · rcases Nat.lt_trichotomy j k with e | e | e
      · exact absurd j3 (k4 j e)
      · omega
      · exact absurd k3 (j4 k e)
theorem ds_ex {M : SR} (h : SAN M) {c f : Nat} (hc : c < 12) (hf : f < 4) : ∃ x : Nat, x ≤ 4 ∧ DS (Af M) (mkm M c) f 4 x := by
  obtain ⟨hm, -⟩ := measured (T := fun _ k => nI (mkm M k)) h hf (fun _ _ => rfl)
  obtain ⟨x, -, x2, x3⟩ := hm.2 c hc
  exact ⟨x, x2, x3⟩
theorem ds_pt {M : SR} {c f x : Nat} (x3 : DS (Af M) (mkm M c) f 4 x) : ¬ x = 0 ↔ PT M c f := by
  constructor
  · intro z
    rcases x3 with ⟨q, -⟩ | ⟨j, j1, j2, j3, j4⟩
    · exact absurd q z
    · exact ⟨j, by omega, j3⟩
  · rintro ⟨j, j1, j2⟩ z
    rcases x3 with ⟨-, q⟩ | ⟨i, i1, i2, -⟩
    · exact q j (by omega) j2
    · omega
theorem ds_1 {M : SR} {c f x : Nat} (x3 : DS (Af M) (mkm M c) f 4 x) : x = 1 ↔ bt (mkm M c) f :=
  (ds_le x3 (j := 0) (by omega)).trans ⟨fun q => q.1, fun q => ⟨q, fun i hi => by omega⟩⟩
/-- what path() tells -/
theorem path_spec {M T : SR} (h : SAN M) {c f x : Nat} (hc : c < 12) (hf : f < 4) (hT : MSK M T) (x2 : x ≤ 4) (x3 : DS (Af M) (mkm M c) f 4 x) : (f_X3_shortest T M (nI c) (nI f) (-1)).1 = (if x = 0 then -99 else nI x) ∧ (¬ x = 0 → (f_X3_shortest T M (nI c) (nI f) 0).1 = nI c ∧ (f_X3_shortest T M (nI c) (nI f) (nI x)).1 = -99 ∧ ∃ e : Nat, e < 12 ∧ (f_X3_shortest T M (nI c) (nI f) (nI (x - 1))).1 = nI e ∧ bt (mkm M e) f) := by
  obtain ⟨hm, -⟩ := measured (T := T) h hf hT
  obtain ⟨x', x1, -, x3'⟩ := hm.2 c hc
  have ex := ds_uniq x3' x3
  subst ex
  have go : ∀ i : Int32, f_X3_shortest T M (nI c) (nI f) i = (if nI x' = 0 then (-99, f_X3_measure T M (nI f)) else if i < nI x' then (if 0 ≤ i then f_X3_shortest_p43 M (nI c) (nI f) i (i.toNatClampNeg + 1) (nI x') (nI c) (nI x' - 1) (f_X3_measure T M (nI f)) else (nI x', f_X3_measure T M (nI f))) else (-99, f_X3_measure T M (nI f))) := fun i => by
    rw [f_X3_shortest, sLet_eq, nI_clamp (show c < 2 ^ 31 by omega), x1]
  generalize f_X3_measure T M (nI f) = T' at hm x1 go
  refine ⟨?_, fun z => ?_⟩
  · rw [go]
    by_cases q : x' = 0
    · rw [if_pos q, if_pos (by rw [q, nI_0])]
    · rw [if_neg q, if_neg (nI_ne0 (by omega) (by omega)), if_pos (show (-1 : Int32) < nI x' from by
        rw [Int32.lt_iff_toInt_lt, nI_toInt (by omega), show (-1 : Int32).toInt = -1 by decide]
        omega), if_neg (by decide)]
  · have zx : ¬ nI x' = 0 := nI_ne0 (by omega) (by omega)
    have hpr : nI x' - 1 = nI (x' - 1) := by
      obtain ⟨y, rfl⟩ : ∃ y, x' = y + 1 := ⟨x' - 1, by omega⟩
      exact nI_pred y
    refine ⟨?_, ?_, ?_⟩
    · rw [go, if_neg zx, if_pos (show (0 : Int32) < nI x' from nI_lt (a := 0) (by omega) (by omega)), if_pos (by decide), show (0 : Int32).toNatClampNeg + 1 = 0 + 1 by decide, f_X3_shortest_p43, hpr, show nI x' - 0 = nI x' from by rw [← nI_0, nI_sub (by omega), Nat.sub_zero], if_pos (nI_lt (by omega) (by omega))]
    · rw [go, if_neg zx, if_neg (nI_nlt (Nat.le_refl x') (by omega))]
    · obtain ⟨e, e1, e2, e3⟩ := sh_43 h hm (nI c) (nI f) (x := x') (by omega) x2 (x' - 1) c (by omega) hc (by rw [show x' - 1 + 1 = x' by omega]; exact x1)
      rw [go, if_neg zx, if_pos (nI_lt (by omega) (by omega)), if_pos (nI_pos' (by omega)), hpr, nI_clamp (by omega), e2]
      exact ⟨e, e1, rfl, e3⟩
