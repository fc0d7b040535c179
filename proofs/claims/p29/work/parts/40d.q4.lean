/-! p29, 4: the history -/
theorem nx5 : ∀ n : Nat, n < 5 → (nI n + 1) - (nI n + 1) / 5 * 5 = nI ((n + 1) % 5) := by decide +kernel
theorem sz5 : ∀ n : Nat, n ≤ 5 → (if 5 < nI n + 1 then 5 else nI n + 1) = nI (if n = 5 then 5 else n + 1) := by
  intro n hn
  rcases (show n = 0 ∨ n = 1 ∨ n = 2 ∨ n = 3 ∨ n = 4 ∨ n = 5 by omega) with rfl | rfl | rfl | rfl | rfl | rfl <;> decide +kernel
theorem keep_1 {G : GR} {k : Nat} (A B : SR) (e : f_X1_keep G = va_up (va_up (va_up G k (G 0)) 7 A) 7 B) (hk : 1 < k ∧ k < 7) : (f_X1_keep G) 0 = G 0 ∧ (f_X1_keep G) 1 = G 1 ∧ (f_X1_keep G) 9 = G 9 ∧ (f_X1_keep G) 7 = B ∧ (f_X1_keep G) k = G 0 ∧ ∀ j : Nat, j < 7 → j ≠ k → (f_X1_keep G) j = G j := by
  rw [e]
  refine ⟨?_, ?_, ?_, vu_eq, ?_, fun j hj hjk => ?_⟩
  · rw [vu_ne (by omega), vu_ne (by omega), vu_ne (by omega)]
  · rw [vu_ne (by omega), vu_ne (by omega), vu_ne (by omega)]
  · rw [vu_ne (by omega), vu_ne (by omega), vu_ne (by omega)]
  · rw [vu_ne (by omega), vu_ne (by omega), vu_eq]
  · rw [vu_ne (by omega), vu_ne (by omega), vu_ne (by omega)]
def kpA (G : GR) (k : Nat) : SR := sU ((va_up G k (G 0)) 7) 0 0 (((((va_up G k (G 0)) 7) 0 0) + 1) - ((((va_up G k (G 0)) 7) 0 0) + 1) / 5 * 5)
def kpB (G : GR) (k : Nat) : SR := sU ((va_up (va_up G k (G 0)) 7 (kpA G k)) 7) 0 1 (if 5 < ((((va_up (va_up G k (G 0)) 7 (kpA G k)) 7) 0 1) + 1) then 5 else ((((va_up (va_up G k (G 0)) 7 (kpA G k)) 7) 0 1) + 1))
theorem kpB_eq {G : GR} {k : Nat} (hk : k < 7) : kpB G k = sU (sU (G 7) 0 0 ((((G 7) 0 0) + 1) - (((G 7) 0 0) + 1) / 5 * 5)) 0 1 (if 5 < (((G 7) 0 1) + 1) then 5 else (((G 7) 0 1) + 1)) := by
  unfold kpB
  rw [vu_eq]
  unfold kpA
  rw [vu_ne (show 7 ≠ k by omega), sU_ne (show 1 ≠ 0 by decide)]
theorem keep_2 (G : GR) {n : Nat} (hn : n < 5) (h : (G 7) 0 0 = nI n) : f_X1_keep G = va_up (va_up (va_up G (2 + n) (G 0)) 7 (kpA G (2 + n))) 7 (kpB G (2 + n)) := by
  rcases (show n = 0 ∨ n = 1 ∨ n = 2 ∨ n = 3 ∨ n = 4 by omega) with rfl | rfl | rfl | rfl | rfl
  · rw [f_X1_keep, if_pos (show (G 7) 0 0 = 0 from h), sLet_eq, sLet_eq, sLet_eq]; try rfl
  · rw [f_X1_keep, if_neg (show ¬ (G 7) 0 0 = 0 by rw [h]; decide), if_pos (show (G 7) 0 0 = 1 from h), sLet_eq, sLet_eq, sLet_eq]; try rfl
  · rw [f_X1_keep, if_neg (show ¬ (G 7) 0 0 = 0 by rw [h]; decide), if_neg (show ¬ (G 7) 0 0 = 1 by rw [h]; decide), if_pos (show (G 7) 0 0 = 2 from h), sLet_eq, sLet_eq, sLet_eq]; try rfl
  · rw [f_X1_keep, if_neg (show ¬ (G 7) 0 0 = 0 by rw [h]; decide), if_neg (show ¬ (G 7) 0 0 = 1 by rw [h]; decide), if_neg (show ¬ (G 7) 0 0 = 2 by rw [h]; decide), if_pos (show (G 7) 0 0 = 3 from h), sLet_eq, sLet_eq, sLet_eq]; try rfl
  · rw [f_X1_keep, if_neg (show ¬ (G 7) 0 0 = 0 by rw [h]; decide), if_neg (show ¬ (G 7) 0 0 = 1 by rw [h]; decide), if_neg (show ¬ (G 7) 0 0 = 2 by rw [h]; decide), if_neg (show ¬ (G 7) 0 0 = 3 by rw [h]; decide), if_pos (show (G 7) 0 0 = 4 from h), sLet_eq, sLet_eq, sLet_eq]; try rfl
theorem pv5 : ∀ n : Nat, n < 5 → ((nI n + 5) - 1) - ((nI n + 5) - 1) / 5 * 5 = nI ((n + 4) % 5) := by decide +kernel
def rsA (G : GR) : SR := sU (G 7) 0 0 (((((G 7) 0 0) + 5) - 1) - ((((G 7) 0 0) + 5) - 1) / 5 * 5)
def rsB (G : GR) : SR := sU (rsA G) 0 1 (((rsA G) 0 1) - 1)
theorem rst_1 {G : GR} {n : Nat} (hn : n < 5) (h : (rsB G) 0 0 = nI n) : f_X1_restoreInto G = va_up (va_up (va_up G 7 (rsA G)) 7 (rsB G)) 0 (G (2 + n)) := by
  have e : f_X1_restoreInto G = (fun Gn5 : GR => (if ((Gn5 7) 0 0) = 0 then va_up Gn5 0 (Gn5 2) else (if ((Gn5 7) 0 0) = 1 then va_up Gn5 0 (Gn5 3) else (if ((Gn5 7) 0 0) = 2 then va_up Gn5 0 (Gn5 4) else (if ((Gn5 7) 0 0) = 3 then va_up Gn5 0 (Gn5 5) else (if ((Gn5 7) 0 0) = 4 then va_up Gn5 0 (Gn5 6) else (fun _ _ _ => 0))))))) (va_up (va_up G 7 (rsA G)) 7 (rsB G)) := by
    unfold f_X1_restoreInto
    dsimp only [sLet]
    rw [vu_eq]
    rfl
  rw [e]
  dsimp only
  rw [vu_eq, h]
  rcases (show n = 0 ∨ n = 1 ∨ n = 2 ∨ n = 3 ∨ n = 4 by omega) with rfl | rfl | rfl | rfl | rfl
  · rw [if_pos (by decide), vu_ne (show 2 ≠ 7 by decide), vu_ne (show 2 ≠ 7 by decide)]
  · rw [if_neg (by decide), if_pos (by decide), vu_ne (show 3 ≠ 7 by decide), vu_ne (show 3 ≠ 7 by decide)]
  · rw [if_neg (by decide), if_neg (by decide), if_pos (by decide), vu_ne (show 4 ≠ 7 by decide), vu_ne (show 4 ≠ 7 by decide)]
  · rw [if_neg (by decide), if_neg (by decide), if_neg (by decide), if_pos (by decide), vu_ne (show 5 ≠ 7 by decide), vu_ne (show 5 ≠ 7 by decide)]
  · rw [if_neg (by decide), if_neg (by decide), if_neg (by decide), if_neg (by decide), if_pos (by decide), vu_ne (show 6 ≠ 7 by decide), vu_ne (show 6 ≠ 7 by decide)]
def HN (G : GR) : Prop := ∃ nx sz : Nat, nx < 5 ∧ sz ≤ 5 ∧ (G 7) 0 0 = nI nx ∧ (G 7) 0 1 = nI sz
def DESK (G : GR) : Prop := (∀ k : Nat, k < 7 → SANE (G k)) ∧ HN G
/-- what undo() brings back -/
def UN (M : SR) (G : GR) : Prop := ∃ nx sz : Nat, nx < 5 ∧ 1 ≤ sz ∧ sz ≤ 5 ∧ (G 7) 0 0 = nI nx ∧ (G 7) 0 1 = nI sz ∧ G (2 + (nx + 4) % 5) = M
theorem hn_o {G : GR} (h : HN G) {k : Nat} {M : SR} (hk : k ≠ 7) : HN (va_up G k M) := by
  obtain ⟨nx, sz, h1, h2, h3, h4⟩ := h
  exact ⟨nx, sz, h1, h2, by rw [vu_ne (Ne.symm hk)]; exact h3, by rw [vu_ne (Ne.symm hk)]; exact h4⟩
theorem desk_o {G : GR} (h : DESK G) {k : Nat} {M : SR} (hk : 7 < k) : DESK (va_up G k M) :=
  ⟨fun j hj => by rw [vu_ne (by omega)]; exact h.1 j hj, hn_o h.2 (by omega)⟩
theorem desk_s {G : GR} (h : DESK G) {k : Nat} {M : SR} (hk : k < 7) (hM : SANE M) : DESK (va_up G k M) :=
  ⟨fun j hj => by
    by_cases e : j = k
    · subst e; rw [vu_eq]; exact hM
    · rw [vu_ne e]; exact h.1 j hj, hn_o h.2 (by omega)⟩
theorem un_o {A : SR} {G : GR} (h : UN A G) {k : Nat} {M : SR} (hk : k < 2 ∨ 7 < k) : UN A (va_up G k M) := by
  obtain ⟨nx, sz, h1, h2, h3, h4, h5, h6⟩ := h
  have := Nat.mod_lt (nx + 4) (show 0 < 5 by omega)
  exact ⟨nx, sz, h1, h2, h3, by rw [vu_ne (by omega)]; exact h4, by rw [vu_ne (by omega)]; exact h5, by rw [vu_ne (by omega)]; exact h6⟩
theorem keep_desk {G : GR} (h : DESK G) : DESK (f_X1_keep G) ∧ UN (G 0) (f_X1_keep G) ∧ (f_X1_keep G) 0 = G 0 ∧ (f_X1_keep G) 1 = G 1 ∧ (f_X1_keep G) 9 = G 9 := by
  obtain ⟨hs, nx, sz, h1, h2, h3, h4⟩ := h
  obtain ⟨k0, k1, k9, k7, kn, ko⟩ := keep_1 _ _ (keep_2 G h1 h3) (by omega)
  have b0 : (f_X1_keep G 7) 0 0 = nI ((nx + 1) % 5) := by rw [k7, kpB_eq (by omega), sU_ne (by decide), sU_eq, h3, nx5 nx h1]
  have b1 : (f_X1_keep G 7) 0 1 = nI (if sz = 5 then 5 else sz + 1) := by rw [k7, kpB_eq (by omega), sU_eq, h4, sz5 sz h2]
  have hm : (nx + 1) % 5 < 5 := Nat.mod_lt _ (by omega)
  have hz : 1 ≤ (if sz = 5 then 5 else sz + 1) ∧ (if sz = 5 then 5 else sz + 1) ≤ 5 := by
    by_cases c : sz = 5
    · rw [if_pos c]; omega
    · rw [if_neg c]; omega
  refine ⟨⟨fun j hj => ?_, _, _, hm, hz.2, b0, b1⟩, ⟨_, _, hm, hz.1, hz.2, b0, b1, ?_⟩, k0, k1, k9⟩
  · by_cases e : j = 2 + nx
    · subst e; rw [kn]; exact hs 0 (by omega)
    · rw [ko j hj e]; exact hs j hj
  · rw [show 2 + ((nx + 1) % 5 + 4) % 5 = 2 + nx by omega, kn]
theorem undo_un {A : SR} {G : GR} (h : DESK G) (u : UN A G) : DESK (f_X5_undo G).2 ∧ (f_X5_undo G).2 0 = A ∧ (f_X5_undo G).2 9 = G 9 ∧ ∃ z : Nat, z < 5 ∧ (f_X5_undo G).1 = nI z := by
  obtain ⟨nx, sz, h1, h2, h3, h4, h5, h6⟩ := u
  have hz : ¬ nI sz = 0 := nI_ne0 (by omega) (by omega)
  have hA0 : (rsA G) 0 0 = nI ((nx + 4) % 5) := by rw [rsA, sU_eq, h4, pv5 nx h1]
  have hB0 : (rsB G) 0 0 = nI ((nx + 4) % 5) := by rw [rsB, sU_ne (by decide)]; exact hA0
  have hB1 : (rsB G) 0 1 = nI (sz - 1) := by
    rw [rsB, sU_eq, rsA, sU_ne (by decide), h5]
    obtain ⟨q, rfl⟩ : ∃ q, sz = q + 1 := ⟨sz - 1, by omega⟩
    rw [nI_pred]; rfl
  have hm : (nx + 4) % 5 < 5 := Nat.mod_lt _ (by omega)
  have er := rst_1 (G := G) hm hB0
  rw [f_X5_undo, if_neg (show ¬ (G 7) 0 1 = 0 by rw [h5]; exact hz), sLet_eq, er]
  dsimp only
  have e7 : ∀ X : SR, (va_up (va_up (va_up G 7 (rsA G)) 7 (rsB G)) 0 X) 7 = rsB G := fun X => by rw [vu_ne (by decide), vu_eq]
  refine ⟨⟨fun j hj => ?_, _, _, hm, (show sz - 1 ≤ 5 by omega), by rw [e7]; exact hB0, by rw [e7]; exact hB1⟩, by rw [vu_eq]; exact h6, by rw [vu_ne (by decide), vu_ne (by decide), vu_ne (by decide)], sz - 1, by omega, by rw [e7]; exact hB1⟩
  by_cases e : j = 0
  · subst e; rw [vu_eq]; exact h.1 _ (by omega)
  · rw [vu_ne e, vu_ne (by omega), vu_ne (by omega)]; exact h.1 j hj
