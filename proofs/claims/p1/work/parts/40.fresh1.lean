theorem fz_g : ∀ a : Nat, a < 4 → ∀ b : Nat, b < 4 → f_X5_group G0 (nI a) (nI b) = (f_X6_group R0 (nI a) (nI b)).1 := by decide +kernel
theorem fz_w : ∀ a : Nat, a < 12 → f_X5_why G0 (nI a) = (f_X6_why R0 (nI a)).1 := by decide +kernel
theorem fz_back : ∀ a : Nat, a < 12 → f_X4_feedBackInto S0 (nI a) = -99 ∧ f_X6_backInto (sU R0 6 0 0) (nI a) = -99 := by decide +kernel
theorem fz_st : ∀ a : Nat, a < 6 → f_J6_bitCount_0f7a4 ((f_X4_keepScene S0 (nI a)) 10 7) = f_X6_scenes (fun _ => upd rowMd (181 + 18 * a) 1) ∧ 181 + 18 * nI a = nI (181 + 18 * a) := by decide +kernel
theorem fz_own : ∀ a : Nat, a < 12 → ∀ b : Nat, b < 2 → f_J6_bitCount_0f7a4 (f_X5_withBit 0 (nI a) (nI b)) = f_X6_bits (((0 : Int32) &&& ((1 <<< (nI a &&& 31)) ^^^ (-1))) ||| (nI b <<< (nI a &&& 31))) := by decide +kernel
theorem fz_count : ∀ a : Nat, a < 11 → f_X5_count G0 (nI a) = (f_X6_count R0 (nI a)).1 := by decide +kernel
theorem fz_f : ∀ a : Nat, a < 4 → ∀ b : Nat, b < 4 → f_X5_feed G0 (nI a) (nI b) = (f_X6_feed R0 (nI a) (nI b)).1 := by decide +kernel
theorem fz_ch : ∀ a : Nat, a < 12 → ∀ b : Nat, b < 9 → f_X5_channel G0 (nI a) (nI b) = (f_X6_channel R0 (nI a) (nI b)).1 := by decide +kernel
theorem fz_s : ∀ a : Nat, a < 4 → ∀ b : Nat, b < 12 → ∀ d : Nat, d < 2 → f_X5_send G0 (nI a) (nI b) (nI d) = (f_X6_send R0 (nI a) (nI b) (nI d)).1 := by decide +kernel
theorem fz_sc : ∀ a : Nat, a < 6 → ∀ b : Nat, b < 17 → f_X5_scene G0 (nI a) (nI b) = (f_X6_scene R0 (nI a) (nI b)).1 := by decide +kernel
theorem fz_he : ∀ b : Nat, b < 4 → (f_X5_hearers G0 (nI b)).1 = (f_X6_hearers R0 (nI b)).1 := by decide +kernel
theorem fz_cu : ∀ b : Nat, b < 4 → (f_X5_cut G0 (nI b)).1 = (f_X6_cut R0 (nI b)).1 := by decide +kernel
theorem fz_loops : (f_X5_loops G0).1 = (f_X6_loops R0).1 := by decide +kernel
theorem fz_lo : ∀ a : Nat, a < 12 → ∀ b : Nat, b < 4 → (f_X3_greatestGain Z0 S0 (nI a) (nI b)).1 = -99 := by decide +kernel
theorem fz_pa : ∀ a : Nat, a < 12 → ∀ b : Nat, b < 4 → (f_X3_measure (f_X3_survey Z0 S0) S0 (nI b)) 1 (nI a).toNatClampNeg = 0 := by decide +kernel
theorem fz_load : (f_X5_load G0).1 = (f_X6_load R0).1 := by decide +kernel
