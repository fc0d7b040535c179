/-! p29, 12: a call's answer and what it makes of now depend on now alone -/
theorem d_setChannel {G H : GR} (hG : DESK G) (hH : DESK H) (e : G 0 = H 0) (v1 v2 v3 : Int32) : (f_X5_setChannel G v1 v2 v3).1 = (f_X5_setChannel H v1 v2 v3).1 ∧ (f_X5_setChannel G v1 v2 v3).2 0 = (f_X5_setChannel H v1 v2 v3).2 0 := by
  have kG : f_X1_keep G 0 = H 0 := (keep_desk hG).2.2.1.trans e
  have kH : f_X1_keep H 0 = H 0 := (keep_desk hH).2.2.1
  rw [f_X5_setChannel, f_X5_setChannel]
  by_cases c0 : f_X5_isBelow v1 12 = 0
  · rw [if_pos c0, if_pos c0]; exact ⟨rfl, e⟩
  rw [if_neg c0, if_neg c0]
  by_cases c1 : f_X5_isBelow v2 5 = 0
  · rw [if_pos c1, if_pos c1]; exact ⟨rfl, e⟩
  rw [if_neg c1, if_neg c1]
  by_cases c2 : f_X5_isWithin v3 0 (chI v2.toNatClampNeg) = 0
  · rw [if_pos c2, if_pos c2]; exact ⟨rfl, e⟩
  rw [if_neg c2, if_neg c2]
  dsimp only [sLet]
  rw [vu_eq, vu_eq, kG, kH]
  exact ⟨rfl, rfl⟩
theorem d_setGroup {G H : GR} (hG : DESK G) (hH : DESK H) (e : G 0 = H 0) (v1 v2 v3 : Int32) : (f_X5_setGroup G v1 v2 v3).1 = (f_X5_setGroup H v1 v2 v3).1 ∧ (f_X5_setGroup G v1 v2 v3).2 0 = (f_X5_setGroup H v1 v2 v3).2 0 := by
  have kG : f_X1_keep G 0 = H 0 := (keep_desk hG).2.2.1.trans e
  have kH : f_X1_keep H 0 = H 0 := (keep_desk hH).2.2.1
  rw [f_X5_setGroup, f_X5_setGroup]
  by_cases c0 : f_X5_isBelow v1 4 = 0
  · rw [if_pos c0, if_pos c0]; exact ⟨rfl, e⟩
  rw [if_neg c0, if_neg c0]
  by_cases c1 : f_X5_isBelow v2 2 = 0
  · rw [if_pos c1, if_pos c1]; exact ⟨rfl, e⟩
  rw [if_neg c1, if_neg c1]
  by_cases c2 : f_X5_isWithin v3 0 (grI v2.toNatClampNeg) = 0
  · rw [if_pos c2, if_pos c2]; exact ⟨rfl, e⟩
  rw [if_neg c2, if_neg c2]
  dsimp only [sLet]
  rw [vu_eq, vu_eq, kG, kH]
  exact ⟨rfl, rfl⟩
theorem d_setSend {G H : GR} (hG : DESK G) (hH : DESK H) (e : G 0 = H 0) (v1 v2 v3 : Int32) : (f_X5_setSend G v1 v2 v3).1 = (f_X5_setSend H v1 v2 v3).1 ∧ (f_X5_setSend G v1 v2 v3).2 0 = (f_X5_setSend H v1 v2 v3).2 0 := by
  have kG : f_X1_keep G 0 = H 0 := (keep_desk hG).2.2.1.trans e
  have kH : f_X1_keep H 0 = H 0 := (keep_desk hH).2.2.1
  rw [f_X5_setSend, f_X5_setSend]
  by_cases c0 : f_X5_isBelow v1 4 = 0
  · rw [if_pos c0, if_pos c0]; exact ⟨rfl, e⟩
  rw [if_neg c0, if_neg c0]
  by_cases c1 : f_X5_isBelow v2 12 = 0
  · rw [if_pos c1, if_pos c1]; exact ⟨rfl, e⟩
  rw [if_neg c1, if_neg c1]
  by_cases c2 : f_X5_isWithin v3 0 100 = 0
  · rw [if_pos c2, if_pos c2]; exact ⟨rfl, e⟩
  rw [if_neg c2, if_neg c2]
  dsimp only [sLet]
  rw [vu_eq, vu_eq, kG, kH]
  exact ⟨rfl, rfl⟩
theorem d_setOwner {G H : GR} (hG : DESK G) (hH : DESK H) (e : G 0 = H 0) (v1 v2 v3 : Int32) : (f_X5_setOwner G v1 v2 v3).1 = (f_X5_setOwner H v1 v2 v3).1 ∧ (f_X5_setOwner G v1 v2 v3).2 0 = (f_X5_setOwner H v1 v2 v3).2 0 := by
  have kG : f_X1_keep G 0 = H 0 := (keep_desk hG).2.2.1.trans e
  have kH : f_X1_keep H 0 = H 0 := (keep_desk hH).2.2.1
  rw [f_X5_setOwner, f_X5_setOwner]
  by_cases c0 : f_X5_isBelow v1 4 = 0
  · rw [if_pos c0, if_pos c0]; exact ⟨rfl, e⟩
  rw [if_neg c0, if_neg c0]
  by_cases c1 : f_X5_isBelow v2 12 = 0
  · rw [if_pos c1, if_pos c1]; exact ⟨rfl, e⟩
  rw [if_neg c1, if_neg c1]
  by_cases c2 : f_X5_isWithin v3 0 1 = 0
  · rw [if_pos c2, if_pos c2]; exact ⟨rfl, e⟩
  rw [if_neg c2, if_neg c2]
  dsimp only [sLet]
  rw [vu_eq, vu_eq, kG, kH]
  exact ⟨rfl, rfl⟩
theorem d_store {G H : GR} (hG : DESK G) (hH : DESK H) (e : G 0 = H 0) (v1 : Int32) : (f_X5_store G v1).1 = (f_X5_store H v1).1 ∧ (f_X5_store G v1).2 0 = (f_X5_store H v1).2 0 := by
  have kG : f_X1_keep G 0 = H 0 := (keep_desk hG).2.2.1.trans e
  have kH : f_X1_keep H 0 = H 0 := (keep_desk hH).2.2.1
  rw [f_X5_store, f_X5_store]
  by_cases c0 : f_X5_isBelow v1 6 = 0
  · rw [if_pos c0, if_pos c0]; exact ⟨rfl, e⟩
  rw [if_neg c0, if_neg c0]
  dsimp only [sLet]
  rw [vu_eq, vu_eq, kG, kH]
  exact ⟨rfl, rfl⟩
theorem d_recall {G H : GR} (hG : DESK G) (hH : DESK H) (e : G 0 = H 0) (v1 v2 : Int32) : (f_X5_recall G v1 v2).1 = (f_X5_recall H v1 v2).1 ∧ (f_X5_recall G v1 v2).2 0 = (f_X5_recall H v1 v2).2 0 := by
  have kG : f_X1_keep G 0 = H 0 := (keep_desk hG).2.2.1.trans e
  have kH : f_X1_keep H 0 = H 0 := (keep_desk hH).2.2.1
  rw [f_X5_recall, f_X5_recall]
  rw [e]
  by_cases c0 : f_X5_isBelow v1 6 = 0
  · rw [if_pos c0, if_pos c0]; exact ⟨rfl, e⟩
  rw [if_neg c0, if_neg c0]
  by_cases c1 : f_X5_isWithin v2 0 100 = 0
  · rw [if_pos c1, if_pos c1]; exact ⟨rfl, e⟩
  rw [if_neg c1, if_neg c1]
  by_cases c2 : f_X5_hasBit ((H 0) 10 7) v1 = 0
  · rw [if_pos c2, if_pos c2]; exact ⟨rfl, e⟩
  rw [if_neg c2, if_neg c2]
  dsimp only [sLet]
  rw [vu_eq, vu_eq, kG, kH]
  exact ⟨rfl, rfl⟩
theorem d_run {G H : GR} (hG : DESK G) (hH : DESK H) (e : G 0 = H 0) (v1 : Int32) : (f_X5_run G v1).1 = (f_X5_run H v1).1 ∧ (f_X5_run G v1).2 0 = (f_X5_run H v1).2 0 := by
  have kG : f_X1_keep G 0 = H 0 := (keep_desk hG).2.2.1.trans e
  have kH : f_X1_keep H 0 = H 0 := (keep_desk hH).2.2.1
  rw [f_X5_run, f_X5_run]
  rw [e]
  by_cases c0 : f_X5_isWithin v1 1 100 = 0
  · rw [if_pos c0, if_pos c0]; exact ⟨rfl, e⟩
  rw [if_neg c0, if_neg c0]
  by_cases c1 : (H 0) 10 3 + v1 ≤ 10000
  · rw [if_pos c1, if_pos c1]
    dsimp only [sLet]
    rw [vu_eq, vu_eq, kG, kH]
    exact ⟨rfl, rfl⟩
  · rw [if_neg c1, if_neg c1]; exact ⟨rfl, e⟩
theorem d_reset {G H : GR} (hG : DESK G) (hH : DESK H) (e : G 0 = H 0) : (f_X5_reset G).1 = (f_X5_reset H).1 ∧ (f_X5_reset G).2 0 = (f_X5_reset H).2 0 := by
  have kG : f_X1_keep G 0 = H 0 := (keep_desk hG).2.2.1.trans e
  have kH : f_X1_keep H 0 = H 0 := (keep_desk hH).2.2.1
  rw [f_X5_reset, f_X5_reset]
  dsimp only [sLet]
  rw [vu_eq, vu_eq, vu_eq, vu_eq, kG, kH]
  exact ⟨rfl, rfl⟩
theorem d_setReturn {G H : GR} (hG : DESK G) (hH : DESK H) (e : G 0 = H 0) (v1 v2 : Int32) : (f_X5_setReturn G v1 v2).1 = (f_X5_setReturn H v1 v2).1 ∧ (f_X5_setReturn G v1 v2).2 0 = (f_X5_setReturn H v1 v2).2 0 := by
  have kG : f_X1_keep G 0 = H 0 := (keep_desk hG).2.2.1.trans e
  have kH : f_X1_keep H 0 = H 0 := (keep_desk hH).2.2.1
  have k43 : (f_X5_setReturn_p43 v1 v2 G).1 = (f_X5_setReturn_p43 v1 v2 H).1 ∧ (f_X5_setReturn_p43 v1 v2 G).2 0 = (f_X5_setReturn_p43 v1 v2 H).2 0 := by
    rw [f_X5_setReturn_p43, f_X5_setReturn_p43]
    dsimp only [sLet]
    rw [vu_eq, vu_eq, kG, kH]
    exact ⟨rfl, rfl⟩
  rw [f_X5_setReturn, f_X5_setReturn, e]
  by_cases c0 : f_X5_isBelow v1 4 = 0
  · rw [if_pos c0, if_pos c0]; exact ⟨rfl, e⟩
  rw [if_neg c0, if_neg c0]
  by_cases c1 : f_X5_isWithin v2 (-1) 11 = 0
  · rw [if_pos c1, if_pos c1]; exact ⟨rfl, e⟩
  rw [if_neg c1, if_neg c1]
  by_cases c2 : f_X4_feedBackInto (H 0) v2 = -99
  · rw [if_pos c2, if_pos c2]; exact k43
  rw [if_neg c2, if_neg c2]
  by_cases c3 : f_X4_feedBackInto (H 0) v2 = v1
  · rw [if_pos c3, if_pos c3]; exact k43
  · rw [if_neg c3, if_neg c3]; exact ⟨rfl, e⟩
