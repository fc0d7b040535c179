/-! p29, 6: ways on masks: from a mask of feeds, by the masks that the feeds come back into -/
def bt (m f : Nat) : Prop := m / 2 ^ f % 2 = 1
def WK (A : Nat → Nat) : Nat → Nat → Nat → Prop
  | 0, m, t => bt m t
  | k + 1, m, t => ∃ f : Nat, f < 4 ∧ bt m f ∧ WK A k (A f) t
theorem wk_tail {A : Nat → Nat} : ∀ (k m t : Nat), t < 4 → (WK A (k + 1) m t ↔ ∃ f : Nat, f < 4 ∧ WK A k m f ∧ bt (A f) t) := by
  intro k
  induction k with
  | zero => intro m t ht; exact Iff.rfl
  | succ k ih =>
    intro m t ht
    constructor
    · rintro ⟨f, hf, h1, h2⟩
      obtain ⟨g, hg, g1, g2⟩ := (ih (A f) t ht).mp h2
      exact ⟨g, hg, ⟨f, hf, h1, g1⟩, g2⟩
    · rintro ⟨g, hg, ⟨f, hf, h1, g1⟩, g2⟩
      exact ⟨f, hf, h1, (ih (A f) t ht).mpr ⟨g, hg, g1, g2⟩⟩
theorem five : ∀ a : Nat, a < 4 → ∀ b : Nat, b < 4 → ∀ c : Nat, c < 4 → ∀ d : Nat, d < 4 → ∀ e : Nat, e < 4 → a = b ∨ a = c ∨ a = d ∨ a = e ∨ b = c ∨ b = d ∨ b = e ∨ c = d ∨ c = e ∨ d = e := by
  intro a ha b hb c hc d hd e he
  omega
theorem wk_short {A : Nat → Nat} {t : Nat} (ht : t < 4) : ∀ (n k m : Nat), k < n → WK A k m t → ∃ j : Nat, j ≤ 3 ∧ j ≤ k ∧ WK A j m t := by
  intro n
  induction n with
  | zero => intro k m hk; omega
  | succ n ih =>
    intro k m hk h
    by_cases c : k ≤ 3
    · exact ⟨k, c, Nat.le_refl k, h⟩
    · obtain ⟨j, rfl⟩ : ∃ j, k = j + 4 := ⟨k - 4, by omega⟩
      obtain ⟨a, ha, a1, b, hb, b1, d, hd, d1, e, he, e1, r⟩ := h
      have cut : ∀ i : Nat, i < j + 4 → WK A i m t → ∃ j' : Nat, j' ≤ 3 ∧ j' ≤ j + 4 ∧ WK A j' m t := fun i hi hw => by
        obtain ⟨z, z1, z2, z3⟩ := ih i m (by omega) hw
        exact ⟨z, z1, by omega, z3⟩
      rcases five a ha b hb d hd e he t ht with q | q | q | q | q | q | q | q | q | q
      · subst q; exact cut (j + 3) (by omega) ⟨a, ha, a1, d, hd, d1, e, he, e1, r⟩
      · subst q; exact cut (j + 2) (by omega) ⟨a, ha, a1, e, he, e1, r⟩
      · subst q; exact cut (j + 1) (by omega) ⟨a, ha, a1, r⟩
      · subst q; exact cut 0 (by omega) a1
      · subst q; exact cut (j + 3) (by omega) ⟨a, ha, a1, b, hb, b1, e, he, e1, r⟩
      · subst q; exact cut (j + 2) (by omega) ⟨a, ha, a1, b, hb, b1, r⟩
      · subst q; exact cut 1 (by omega) ⟨a, ha, a1, b1⟩
      · subst q; exact cut (j + 3) (by omega) ⟨a, ha, a1, b, hb, b1, d, hd, d1, r⟩
      · subst q; exact cut 2 (by omega) ⟨a, ha, a1, b, hb, b1, d1⟩
      · subst q; exact cut 3 (by omega) ⟨a, ha, a1, b, hb, b1, d, hd, d1, e1⟩
/-- a round over the feeds -/
def rd1 (A : Nat → Nat) (f m : Nat) : Nat := if m / 2 ^ f % 2 = 1 then m ||| A f else m
def rd (A : Nat → Nat) (m : Nat) : Nat := rd1 A 3 (rd1 A 2 (rd1 A 1 (rd1 A 0 m)))
theorem bt_or (m k f : Nat) : bt (m ||| k) f ↔ bt m f ∨ bt k f := by
  have e : ∀ x : Nat, bt x f ↔ x.testBit f = true := fun x => by
    unfold bt
    rw [Nat.testBit_eq_decide_div_mod_eq]
    simp
  rw [e, e, e, Nat.testBit_or, Bool.or_eq_true]
theorem rd1_up {A : Nat → Nat} {f m g : Nat} (h : bt m g) : bt (rd1 A f m) g := by
  unfold rd1
  by_cases c : m / 2 ^ f % 2 = 1
  · rw [if_pos c]; exact (bt_or _ _ _).mpr (Or.inl h)
  · rw [if_neg c]; exact h
theorem rd1_at {A : Nat → Nat} {f m g : Nat} (h : bt m f) (hg : bt (A f) g) : bt (rd1 A f m) g := by
  unfold rd1
  rw [if_pos (show m / 2 ^ f % 2 = 1 from h)]; exact (bt_or _ _ _).mpr (Or.inr hg)
theorem rd1_of {A : Nat → Nat} {f m g : Nat} (h : bt (rd1 A f m) g) : bt m g ∨ (bt m f ∧ bt (A f) g) := by
  unfold rd1 at h
  by_cases c : m / 2 ^ f % 2 = 1
  · rw [if_pos c] at h
    rcases (bt_or _ _ _).mp h with h | h
    · exact Or.inl h
    · exact Or.inr ⟨c, h⟩
  · rw [if_neg c] at h; exact Or.inl h
theorem rd_up {A : Nat → Nat} {m g : Nat} (h : bt m g) : bt (rd A m) g := rd1_up (rd1_up (rd1_up (rd1_up h)))
theorem rd_at {A : Nat → Nat} {m f g : Nat} (hf : f < 4) (h : bt m f) (hg : bt (A f) g) : bt (rd A m) g := by
  rcases (show f = 0 ∨ f = 1 ∨ f = 2 ∨ f = 3 by omega) with rfl | rfl | rfl | rfl
  · exact rd1_up (rd1_up (rd1_up (rd1_at h hg)))
  · exact rd1_up (rd1_up (rd1_at (rd1_up h) hg))
  · exact rd1_up (rd1_at (rd1_up (rd1_up h)) hg)
  · exact rd1_at (rd1_up (rd1_up (rd1_up h))) hg
/-- what is found lies on a way -/
def OnW (A : Nat → Nat) (m x : Nat) : Prop := ∀ g : Nat, g < 4 → bt x g → ∃ k : Nat, WK A k m g
theorem on_rd1 {A : Nat → Nat} {m x f : Nat} (hf : f < 4) (h : OnW A m x) : OnW A m (rd1 A f x) := by
  intro g hg hb
  rcases rd1_of hb with q | ⟨q1, q2⟩
  · exact h g hg q
  · obtain ⟨k, hk⟩ := h f hf q1
    exact ⟨k + 1, (wk_tail k m g hg).mpr ⟨f, hf, hk, q2⟩⟩
theorem on_rd {A : Nat → Nat} {m x : Nat} (h : OnW A m x) : OnW A m (rd A x) := on_rd1 (by omega) (on_rd1 (by omega) (on_rd1 (by omega) (on_rd1 (by omega) h)))
/-- all that is found: the feeds on ways of up to four steps -/
theorem found {A : Nat → Nat} {m g : Nat} (hg : g < 4) : bt (rd A (rd A (rd A m))) g ↔ ∃ k : Nat, k ≤ 3 ∧ WK A k m g := by
  constructor
  · intro h
    have o : OnW A m (rd A (rd A (rd A m))) := on_rd (on_rd (on_rd (fun g _ hb => ⟨0, hb⟩)))
    obtain ⟨k, hk⟩ := o g hg h
    obtain ⟨j, j1, j2, j3⟩ := wk_short hg (k + 1) k m (by omega) hk
    exact ⟨j, j1, j3⟩
  · rintro ⟨k, hk, h⟩
    rcases (show k = 0 ∨ k = 1 ∨ k = 2 ∨ k = 3 by omega) with rfl | rfl | rfl | rfl
    · exact rd_up (rd_up (rd_up h))
    · obtain ⟨f, hf, h1, h2⟩ := (wk_tail 0 m g hg).mp h
      exact rd_at hf (rd_up (rd_up h1)) h2
    · obtain ⟨f, hf, h1, h2⟩ := (wk_tail 1 m g hg).mp h
      obtain ⟨f', hf', h1', h2'⟩ := (wk_tail 0 m f hf).mp h1
      exact rd_at hf (rd_at hf' (rd_up h1') h2') h2
    · obtain ⟨f, hf, h1, h2⟩ := (wk_tail 2 m g hg).mp h
      obtain ⟨f', hf', h1', h2'⟩ := (wk_tail 1 m f hf).mp h1
      obtain ⟨f'', hf'', h1'', h2''⟩ := (wk_tail 0 m f' hf').mp h1'
      exact rd_at hf (rd_at hf' (rd_at hf'' h1'' h2'') h2') h2
