/-! to be replaced -/
theorem law_is_1 (L : Nat) (xs : Nat → Int32) : (f_L_law_p10 L xs 19 0 G0).1 = 1 := sorry
