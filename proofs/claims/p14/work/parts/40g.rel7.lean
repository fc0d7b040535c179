/-! the answers compared -/
theorem cmp_setSend {i : Nat} {G : GR} {R : SR} (hV : INV i G R) (hi : i + 4 ≤ 2048) (v1 v2 v3 : Int32) : (f_X5_setSend G v1 v2 v3).1 = (f_X6_setSend R v1 v2 v3).1 := (r_setSend hV.2 v1 v2 v3).1
theorem cmp_setReturn {i : Nat} {G : GR} {R : SR} (hV : INV i G R) (hi : i + 4 ≤ 2048) (v1 v2 : Int32) : (f_X5_setReturn G v1 v2).1 = (f_X6_setReturn R v1 v2).1 := (r_setReturn hV.2 v1 v2).1
theorem cmp_store {i : Nat} {G : GR} {R : SR} (hV : INV i G R) (hi : i + 4 ≤ 2048) (v1 : Int32) : (f_X5_store G v1).1 = (f_X6_store R v1).1 := (r_store hV.2 v1).1
theorem cmp_undo {i : Nat} {G : GR} {R : SR} (hV : INV i G R) (hi : i + 4 ≤ 2048) : (f_X5_undo G).1 = (f_X6_undo R).1 := (undo_rel hV.2).1
theorem cmp_append {i : Nat} {G : GR} {R : SR} (hV : INV i G R) (hi : i + 4 ≤ 2048) (v1 : Int32) : (f_X5_append G v1).1 = (f_X6_append R v1).1 := (r_append hV.2 v1).1
theorem cmp_clearText {i : Nat} {G : GR} {R : SR} (hV : INV i G R) (hi : i + 4 ≤ 2048) : (f_X5_clearText G).1 = (f_X6_clearText R).1 := (r_clear hV.2).1
theorem cmp_load {i : Nat} {G : GR} {R : SR} (hV : INV i G R) (hi : i + 4 ≤ 2048) : (f_X5_load G).1 = (f_X6_load R).1 := (r_load hV.2).1
theorem bits64 : ∀ a : Nat, a < 64 → ∀ b : Nat, b < 64 → f_J6_bitCount_0f7a4 (nI (64 * a + b)) = f_X6_bits (nI (64 * a + b)) := by decide +kernel
theorem bits12 (j : Nat) (hj : j < 4096) : f_J6_bitCount_0f7a4 (nI j) = f_X6_bits (nI j) := by
  have h := bits64 (j / 64) (by omega) (j % 64) (by omega)
  rw [show 64 * (j / 64) + j % 64 = j by omega] at h
  exact h
theorem cmp_setOwner {i : Nat} {G : GR} {R : SR} (hV : INV i G R) (hi : i + 4 ≤ 2048) (v1 v2 v3 : Int32) : (f_X5_setOwner G v1 v2 v3).1 = (f_X6_setOwner R v1 v2 v3).1 := by
  obtain ⟨x, ⟨hx, e1, e2⟩ | e⟩ := (r_setOwner hV.2 v1 v2 v3).1
  · obtain ⟨j, hj, rfl⟩ := vp_in_of hx (by decide)
    rw [e1, e2, bits12 j hj]
  · exact e
