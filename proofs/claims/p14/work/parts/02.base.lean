/-! the words in which contracts speak: rows of ints, the cells of a state, the links of nest mates -/
abbrev SR : Type := Nat → Nat → Int32
def sU (M : SR) (r k : Nat) (v : Int32) : SR := va_up M r (upd (M r) k v)
def sR (M : SR) (r : Nat) (f : Nat → Int32) : SR := va_up M r f
def sLet {α β : Type} (x : α) (f : α → β) : β := f x
theorem sLet_eq {α β : Type} (x : α) (f : α → β) : sLet x f = f x := rfl
def nestW : List Cond := [.methodLinkNest RX4 41 yX0_init RX5,
  .methodLinkNest RX5 37 yX2_init RX5,
  .methodLinkNest RX4 81 yX5_hasBit RX5,
  .methodLinkNest RX4 85 yX5_withBit RX5,
  .methodLinkNest RX0 38 yX5_hasBit RX5,
  .methodLinkNest RX4 104 yX5_sendIndex RX5,
  .methodLinkNest RX2 74 yX5_isBelow RX5,
  .methodLinkNest RX2 66 yX5_hasBit RX5,
  .methodLinkNest RX2 84 yX5_sendIndex RX5,
  .methodLinkNest RX3 34 yX5_hasBit RX5,
  .methodLinkNest RX3 49 yX5_withBit RX5,
  .fieldLinkNest RX4 131 "FeedDesk$Fade" "target" "I" RX5,
  .fieldLinkNest RX5 162 "FeedDesk$Fade" "step" "I" RX5,
  .fieldLinkNest RX4 134 "FeedDesk$Fade" "step" "I" RX5,
  .fieldLinkNest RX5 165 "FeedDesk$Fade" "ticks" "I" RX5,
  .fieldLinkNest RX4 149 "FeedDesk$Fade" "ticks" "I" RX5,
  .fieldLinkNest RX4 146 "FeedDesk$Fade" "touched" "I" RX5,
  .fieldLinkNest RX5 204 "FeedDesk$State" "sliders" "[I" RX5,
  .fieldLinkNest RX5 198 "FeedDesk$State" "muted" "I" RX5,
  .fieldLinkNest RX5 166 "FeedDesk$State" "soloed" "I" RX5,
  .fieldLinkNest RX5 74 "FeedDesk$State" "sends" "[I" RX5,
  .fieldLinkNest RX2 81 "FeedDesk$State" "sends" "[I" RX5,
  .fieldLinkNest RX3 42 "FeedDesk$State" "owners" "[I" RX5,
  .fieldLinkNest RX5 80 "FeedDesk$State" "owners" "[I" RX5,
  .fieldLinkNest RX3 31 "FeedDesk$State" "returns" "[I" RX5,
  .fieldLinkNest RX5 96 "FeedDesk$State" "returns" "[I" RX5,
  .fieldLinkNest RX5 176 "FeedDesk$State" "signal" "[I" RX5,
  .fieldLinkNest RX5 186 "FeedDesk$State" "output" "[I" RX5,
  .fieldLinkNest RX5 117 "FeedDesk$State" "ticks" "I" RX5,
  .fieldLinkNest RX5 123 "FeedDesk$State" "mainSum" "I" RX5,
  .fieldLinkNest RX5 126 "FeedDesk$State" "peak" "I" RX5,
  .fieldLinkNest RX5 129 "FeedDesk$State" "clips" "I" RX5,
  .fieldLinkNest RX5 195 "FeedDesk$State" "scenes" "[I" RX5,
  .fieldLinkNest RX5 103 "FeedDesk$State" "stored" "I" RX5,
  .fieldLinkNest RX5 152 "FeedDesk$State" "fade" "LFeedDesk$Fade;" RX5,
  .fieldLinkNest RX5 132 "FeedDesk$History" "size" "I" RX5,
  .fieldLinkNest RX5 138 "FeedDesk$Patch" "length" "I" RX5,
  .fieldLinkNest RX2 43 "FeedDesk" "CHANNEL_MOST" "[I" RX5]
theorem nestW_kind : ∀ w ∈ nestW, (∃ a i x h, w = .methodLinkNest a i x h) ∨ (∃ a i b n d h, w = .fieldLinkNest a i b n d h) := by
  intro w hw
  simp only [nestW, List.mem_cons, List.not_mem_nil, or_false] at hw
  rcases hw with rfl | rfl | rfl | rfl | rfl | rfl | rfl | rfl | rfl | rfl | rfl | rfl | rfl | rfl | rfl | rfl | rfl | rfl | rfl | rfl | rfl | rfl | rfl | rfl | rfl | rfl | rfl | rfl | rfl | rfl | rfl | rfl | rfl | rfl | rfl | rfl | rfl | rfl
  · exact Or.inl ⟨_, _, _, _, rfl⟩
  · exact Or.inl ⟨_, _, _, _, rfl⟩
  · exact Or.inl ⟨_, _, _, _, rfl⟩
  · exact Or.inl ⟨_, _, _, _, rfl⟩
  · exact Or.inl ⟨_, _, _, _, rfl⟩
  · exact Or.inl ⟨_, _, _, _, rfl⟩
  · exact Or.inl ⟨_, _, _, _, rfl⟩
  · exact Or.inl ⟨_, _, _, _, rfl⟩
  · exact Or.inl ⟨_, _, _, _, rfl⟩
  · exact Or.inl ⟨_, _, _, _, rfl⟩
  · exact Or.inl ⟨_, _, _, _, rfl⟩
  · exact Or.inr ⟨_, _, _, _, _, _, rfl⟩
  · exact Or.inr ⟨_, _, _, _, _, _, rfl⟩
  · exact Or.inr ⟨_, _, _, _, _, _, rfl⟩
  · exact Or.inr ⟨_, _, _, _, _, _, rfl⟩
  · exact Or.inr ⟨_, _, _, _, _, _, rfl⟩
  · exact Or.inr ⟨_, _, _, _, _, _, rfl⟩
  · exact Or.inr ⟨_, _, _, _, _, _, rfl⟩
  · exact Or.inr ⟨_, _, _, _, _, _, rfl⟩
  · exact Or.inr ⟨_, _, _, _, _, _, rfl⟩
  · exact Or.inr ⟨_, _, _, _, _, _, rfl⟩
  · exact Or.inr ⟨_, _, _, _, _, _, rfl⟩
  · exact Or.inr ⟨_, _, _, _, _, _, rfl⟩
  · exact Or.inr ⟨_, _, _, _, _, _, rfl⟩
  · exact Or.inr ⟨_, _, _, _, _, _, rfl⟩
  · exact Or.inr ⟨_, _, _, _, _, _, rfl⟩
  · exact Or.inr ⟨_, _, _, _, _, _, rfl⟩
  · exact Or.inr ⟨_, _, _, _, _, _, rfl⟩
  · exact Or.inr ⟨_, _, _, _, _, _, rfl⟩
  · exact Or.inr ⟨_, _, _, _, _, _, rfl⟩
  · exact Or.inr ⟨_, _, _, _, _, _, rfl⟩
  · exact Or.inr ⟨_, _, _, _, _, _, rfl⟩
  · exact Or.inr ⟨_, _, _, _, _, _, rfl⟩
  · exact Or.inr ⟨_, _, _, _, _, _, rfl⟩
  · exact Or.inr ⟨_, _, _, _, _, _, rfl⟩
  · exact Or.inr ⟨_, _, _, _, _, _, rfl⟩
  · exact Or.inr ⟨_, _, _, _, _, _, rfl⟩
  · exact Or.inr ⟨_, _, _, _, _, _, rfl⟩
def ENV (U : State) : Prop := ∀ w ∈ nestW, va_Nw w U
theorem ENV.at {U : State} (h : ENV U) (k : Nat) {w : Cond} (hk : nestW[k]? = some w) : va_Nw w U := h w (List.mem_of_getElem? hk)
theorem ENV.same {u U : State} (h : u.vm = U.vm) (hZ : ENV u) : ENV U := fun w hw => va_Nw.same (by
  rcases nestW_kind w hw with ⟨_, _, _, _, rfl⟩ | ⟨_, _, _, _, _, _, rfl⟩ <;> rfl) h (hZ w hw)
theorem ENV.warm {s U : State} (hW : s.WarmedH U.vm) (hZ : ENV s) : ENV U := fun w hw => by
  have h := hZ w hw
  rcases nestW_kind w hw with ⟨_, _, _, _, rfl⟩ | ⟨_, _, _, _, _, _, rfl⟩
  · exact va_Nw.warmM hW h
  · exact va_Nw.warmF hW h
abbrev tyL (cI cC cS : ClassId) : List (ClassId × FieldType) := [(cI, .int), (cC, .char), (cS, .object RX4)]
def cFd (a : Nat → Nat) (cI : ClassId) (M : SR) : va_W := [(a 0, .inr (0, [.int (M 11 0), .int (M 11 1), .int (M 11 2), .int (M 11 3), .ref (a 1)])), (a 1, .inl (cI, 16, .inl (M 9)))]
def cSt (a : Nat → Nat) (cI : ClassId) (M : SR) : va_W := [(a 0, .inr (4, [.ref (a 1), .ref (a 2), .ref (a 3), .int (M 10 0), .int (M 10 1), .int (M 10 2), .ref (a 4), .ref (a 5), .ref (a 6), .ref (a 7), .ref (a 8), .int (M 10 3), .int (M 10 4), .int (M 10 5), .int (M 10 6), .ref (a 9), .int (M 10 7), .ref (a 10)])), (a 1, .inl (cI, 12, .inl (M 0))), (a 2, .inl (cI, 16, .inl (M 1))), (a 3, .inl (cI, 12, .inl (M 2))), (a 4, .inl (cI, 48, .inl (M 3))), (a 5, .inl (cI, 4, .inl (M 4))), (a 6, .inl (cI, 4, .inl (M 5))), (a 7, .inl (cI, 12, .inl (M 6))), (a 8, .inl (cI, 4, .inl (M 7))), (a 9, .inl (cI, 102, .inl (M 8))), (a 10, .inr (0, [.int (M 11 0), .int (M 11 1), .int (M 11 2), .int (M 11 3), .ref (a 11)])), (a 11, .inl (cI, 16, .inl (M 9)))]
def cRt (a b : Nat → Nat) (cI : ClassId) (M : SR) : va_W := [(a 0, .inr (3, [.ref (b 0), .ref (a 1), .ref (a 2), .ref (a 3)])), (a 1, .inl (cI, 12, .inl (M 0))), (a 2, .inl (cI, 12, .inl (M 1))), (a 3, .inl (cI, 4, .inl (M 2)))]
def cPt (a : Nat → Nat) (cC : ClassId) (M : SR) : va_W := [(a 0, .inr (2, [.ref (a 1), .int (M 1 0), .int (M 1 1)])), (a 1, .inl (cC, 140, .inl (M 0)))]
def cA16 (a : Nat → Nat) (cI : ClassId) (g : Nat → Int32) : va_W := [(a 0, .inl (cI, 16, .inl g))]
def WF (M : SR) : Prop := (∀ j : Nat, j < 4 → M 5 j = -1 ∨ vp_in (M 5 j) 12) ∧ vp_in (M 11 0) 6
theorem wf_ret {M : SR} (hW : WF M) {x : Int32} {j : Nat} (ex : x = nI j) (hj : j < 4) (hc : ¬ M 5 x.toNatClampNeg < 0) : vp_in (M 5 x.toNatClampNeg) 12 := by
  rw [ex, nI_clamp (by omega)] at hc ⊢
  rcases hW.1 j hj with h | h
  · exact absurd (by rw [h]; decide) hc
  · exact h
theorem wf_ret2 {M : SR} (hW : WF M) {x : Int32} {j : Nat} (ex : x = nI j) (hj : j < 4) (hc : 0 ≤ M 5 x.toNatClampNeg) : vp_in (M 5 x.toNatClampNeg) 12 :=
  wf_ret hW ex hj (Int32.not_lt.mpr hc)
def mFd (M F : SR) : SR := va_up (va_up M 9 (F 9)) 11 (F 11)
theorem wf_fd {M F : SR} (hW : WF M) (h : F 11 0 = M 11 0) : WF (mFd M F) := ⟨hW.1, by show vp_in (F 11 0) 6; rw [h]; exact hW.2⟩
theorem wf_fd2 {M F : SR} {x : Int32} (hW : WF M) (h : F 11 0 = x) (hx : vp_in x 6) : WF (mFd M F) := ⟨hW.1, by show vp_in (F 11 0) 6; rw [h]; exact hx⟩
abbrev GR : Type := Nat → SR
def kf (a : Nat → Nat) : Nat → Option Nat := fun i => some (a (27 + 12 * i))
def cDk (a : Nat → Nat) (cI cC cS : ClassId) (G : GR) : va_W := [(a 0, .inr (5, [.ref (a 1), .ref (a 13), .ref (a 25), .ref (a 87), .ref (a 91)]))] ++ (cSt (fun j => a (1 + j)) cI (G 0) ++ (cSt (fun j => a (13 + j)) cI (G 1) ++ ([(a 25, .inr (1, [.ref (a 26), .int (G 7 0 0), .int (G 7 0 1)])), (a 26, .inl (cS, 5, .inr (.inr (.inr (.inr (kf a))))))] ++ (cSt (fun j => a (27 + j)) cI (G 2) ++ (cSt (fun j => a (39 + j)) cI (G 3) ++ (cSt (fun j => a (51 + j)) cI (G 4) ++ (cSt (fun j => a (63 + j)) cI (G 5) ++ (cSt (fun j => a (75 + j)) cI (G 6) ++ (cRt (fun j => a (87 + j)) (fun j => a (1 + j)) cI (G 8) ++ cPt (fun j => a (91 + j)) cC (G 9))))))))))
def WFG (G : GR) : Prop := (∀ k : Nat, k < 7 → WF (G k)) ∧ vp_in (G 7 0 0) 5 ∧ vp_in (G 7 0 1) 6 ∧ vp_in (G 9 1 0) 141
theorem wfg_st {G : GR} (h : WFG G) {k : Nat} (hk : k < 7) {M : SR} (hM : WF M) : WFG (va_up G k M) := by
  refine ⟨fun j hj => ?_, ?_, ?_, ?_⟩
  · unfold va_up
    by_cases e : j = k
    · rw [if_pos e]; exact hM
    · rw [if_neg e]; exact h.1 j hj
  · unfold va_up; rw [if_neg (by omega)]; exact h.2.1
  · unfold va_up; rw [if_neg (by omega)]; exact h.2.2.1
  · unfold va_up; rw [if_neg (by omega)]; exact h.2.2.2
theorem wfg_rt {G : GR} (h : WFG G) {M : SR} : WFG (va_up G 8 M) := by
  refine ⟨fun j hj => ?_, h.2.1, h.2.2.1, h.2.2.2⟩
  unfold va_up; rw [if_neg (by omega)]; exact h.1 j hj
theorem wfg_hs {G : GR} (h : WFG G) {M : SR} (h0 : vp_in (M 0 0) 5) (h1 : vp_in (M 0 1) 6) : WFG (va_up G 7 M) := by
  refine ⟨fun j hj => ?_, h0, h1, h.2.2.2⟩
  unfold va_up; rw [if_neg (by omega)]; exact h.1 j hj
theorem wfg_pt {G : GR} (h : WFG G) {M : SR} (h0 : vp_in (M 1 0) 141) : WFG (va_up G 9 M) := by
  refine ⟨fun j hj => ?_, h.2.1, h.2.2.1, h0⟩
  unfold va_up; rw [if_neg (by omega)]; exact h.1 j hj
theorem vp5_cases {x : Int32} (h : vp_in x 5) : x = 0 ∨ x = 1 ∨ x = 2 ∨ x = 3 ∨ x = 4 := by
  obtain ⟨j, hj, e⟩ := vp_in_of h (by decide)
  rcases (show j = 0 ∨ j = 1 ∨ j = 2 ∨ j = 3 ∨ j = 4 by omega) with rfl | rfl | rfl | rfl | rfl
  · exact Or.inl e
  · exact Or.inr (Or.inl e)
  · exact Or.inr (Or.inr (Or.inl e))
  · exact Or.inr (Or.inr (Or.inr (Or.inl e)))
  · exact Or.inr (Or.inr (Or.inr (Or.inr e)))
def vp_okB (x : Int32) (n : Nat) : Bool := !decide (x < 0) && decide (x.toNatClampNeg < n)
theorem vp_of_B {x : Int32} {n : Nat} (h : vp_okB x n = true) : vp_in x n := by
  simp only [vp_okB, Bool.and_eq_true, Bool.not_eq_true', decide_eq_false_iff_not, decide_eq_true_eq] at h
  intro z
  rcases z with z | z
  · exact h.1 z
  · omega
theorem hs_next {x : Int32} (h : vp_in x 5) : vp_in (x + 1 - (x + 1) / 5 * 5) 5 := by
  obtain ⟨j, hj, e⟩ := vp_in_of h (by decide)
  rw [e]; exact vp_of_B ((by decide +kernel : ∀ j : Nat, j < 5 → vp_okB (nI j + 1 - (nI j + 1) / 5 * 5) 5 = true) j hj)
theorem hs_prev {x : Int32} (h : vp_in x 5) : vp_in (x + 5 - 1 - (x + 5 - 1) / 5 * 5) 5 := by
  obtain ⟨j, hj, e⟩ := vp_in_of h (by decide)
  rw [e]; exact vp_of_B ((by decide +kernel : ∀ j : Nat, j < 5 → vp_okB (nI j + 5 - 1 - (nI j + 5 - 1) / 5 * 5) 5 = true) j hj)
theorem hs_size {x : Int32} (h : vp_in x 6) : vp_in (if 5 < x + 1 then 5 else x + 1) 6 := by
  obtain ⟨j, hj, e⟩ := vp_in_of h (by decide)
  rw [e]; exact vp_of_B ((by decide +kernel : ∀ j : Nat, j < 6 → vp_okB (if 5 < nI j + 1 then 5 else nI j + 1) 6 = true) j hj)
theorem hs_dec {x : Int32} (h : vp_in x 6) (hz : ¬ x = 0) : vp_in (x - 1) 6 := by
  obtain ⟨j, hj, e⟩ := vp_in_of h (by decide)
  rw [e] at hz ⊢; exact vp_of_B ((by decide +kernel : ∀ j : Nat, j < 6 → ¬ nI j = 0 → vp_okB (nI j - 1) 6 = true) j hj hz)
def chI : Nat → Int32 := fun j => if j = 0 then 1000 else if j = 1 then 100 else if j = 2 then 1 else if j = 3 then 1 else 15
def grI : Nat → Int32 := fun j => if j = 0 then 100 else 1
def ifI : Nat → Int32 := fun j => if j = 0 then 105 else if j = 1 then 102 else if j = 2 then 109 else if j = 3 then 115 else 103
def STR (ks kv : Nat) (A : Nat → Prop) (U : State) (H : Heap) : Prop := va_O "java/lang/String" ks A U H ∧ va_OF "java/lang/String" "coder" "B" (.int 0) ks A U H ∧ va_OF "java/lang/String" "value" "[B" (.ref kv) ks A U H ∧ va_T .byte kv 5 (fun j => .int (ifI j)) A U H ∧ va_Z "java/lang/String" "COMPACT_STRINGS" "Z" (.int 1) A U H
theorem STR.use {ks kv : Nat} {A B : Nat → Prop} {s U : State} {H : Heap} {locs : List Loc} (h : STR ks kv A s s.heap) (hS : va_S A s.heap H locs) (hB : ∀ q, B q → A q) (hU : U.heap = H) (hW : s.WarmedH U.vm) : STR ks kv B U U.heap := by
  obtain ⟨h1, h2, h3, h4, h5⟩ := h
  rw [hU]
  exact ⟨((h1.kept hS.2.1).moved hW.alike).narrow hB, ((h2.kept hS.2.1).moved hW.alike).narrow hB, ((h3.kept hS.2.1).moved hW.alike).narrow hB, ((h4.kept hS.2.1).moved hW.alike).narrow hB, ((h5.kept hS.2.1).moved hW.alike).narrow hB⟩
theorem STR.same {ks kv : Nat} {A : Nat → Prop} {u U : State} (h : STR ks kv A u u.heap) (hv : u.vm.Alike U.vm) (hh : U.heap = u.heap) : STR ks kv A U U.heap := by
  obtain ⟨h1, h2, h3, h4, h5⟩ := h
  rw [hh]
  exact ⟨h1.moved hv, h2.moved hv, h3.moved hv, h4.moved hv, h5.moved hv⟩
def PcJ (D : va_G) (tys : List (ClassId × FieldType)) (ks kv sz : Nat) (av : List Value) (A : Nat → Prop) : Array Value → State → Prop := va_Pc av (fun U => U.heap.size = sz ∧ va_K D vwCl tys U ∧ ENV U ∧ STR ks kv A U U.heap)
theorem PcJ.blind {D : va_G} {tys : List (ClassId × FieldType)} {ks kv sz : Nat} {av : List Value} {A : Nat → Prop} : FrameBlind (PcJ D tys ks kv sz av A) := by
  intro a U g mk q
  obtain ⟨q0, q1, qK, qN, qS⟩ := q
  exact ⟨q0, q1, va_K.moved (u := U) (U := U.calling g mk a) (Vm.Alike.refl U.vm) qK, ENV.same (u := U) (U := U.calling g mk a) rfl qN, STR.same (u := U) (U := U.calling g mk a) qS (Vm.Alike.refl U.vm) rfl⟩
theorem pJS {s : State} {H : Heap} {locs : List Loc} {D : va_G} {tys : List (ClassId × FieldType)} {ks kv : Nat} {A0 B : Nat → Prop} {As : List Value} (hK : va_K D vwCl tys s) (hN : ENV s) (hJ : STR ks kv A0 s s.heap) (hS : va_S A0 s.heap H locs) (hB : ∀ q, B q → A0 q) : PreS s H (PcJ D tys ks kv H.size As B) As :=
  ⟨PcJ.blind, fun U hU hW => ⟨rfl, by rw [hU], va_K.moved hW.alike hK, hN.warm hW, hJ.use hS hB hU hW⟩⟩
theorem pJV {s : State} {H : Heap} {locs : List Loc} {D : va_G} {tys : List (ClassId × FieldType)} {ks kv : Nat} {A0 B : Nat → Prop} {As : List Value} (hK : va_K D vwCl tys s) (hN : ENV s) (hJ : STR ks kv A0 s s.heap) (hS : va_S A0 s.heap H locs) (hB : ∀ q, B q → A0 q) : PreV s H "java/lang/String" ks (PcJ D tys ks kv H.size (.ref ks :: As) B) As := by
  refine ⟨PcJ.blind, ?_, fun U hU hW => ⟨rfl, by rw [hU], va_K.moved hW.alike hK, hN.warm hW, hJ.use hS hB hU hW⟩⟩
  obtain ⟨cell, h1, h2, h3, -⟩ := hJ.1.kept hS.2.1
  exact ⟨cell, h1, h2, h3⟩
def STA (A : Nat → Prop) (U : State) (H : Heap) : Prop := (∃ t : Nat, va_Z RX5 "CHANNEL_MOST" "[I" (.ref t) A U H ∧ va_T .int t 5 (fun j => .int (chI j)) A U H) ∧ (∃ t : Nat, va_Z RX5 "GROUP_MOST" "[I" (.ref t) A U H ∧ va_T .int t 2 (fun j => .int (grI j)) A U H) ∧ ∃ ks kv : Nat, STR ks kv A U H ∧ vk_R RX2 59 "ifmsg" ks U
theorem STA.use {A B : Nat → Prop} {s U : State} {H : Heap} {locs : List Loc} (h : STA A s s.heap) (hS : va_S A s.heap H locs) (hB : ∀ q, B q → A q) (hU : U.heap = H) (hW : s.WarmedH U.vm) : STA B U U.heap := by
  obtain ⟨⟨t, h1, h2⟩, ⟨t2, h3, h4⟩, ⟨ks, kv, h5, h6⟩⟩ := h
  refine ⟨⟨t, ?_, ?_⟩, ⟨t2, ?_, ?_⟩, ⟨ks, kv, h5.use hS hB hU hW, h6.warm hW⟩⟩
  · rw [hU]; exact ((h1.kept hS.2.1).moved hW.alike).narrow hB
  · rw [hU]; exact ((h2.kept hS.2.1).moved hW.alike).narrow hB
  · rw [hU]; exact ((h3.kept hS.2.1).moved hW.alike).narrow hB
  · rw [hU]; exact ((h4.kept hS.2.1).moved hW.alike).narrow hB
theorem STA.same {A : Nat → Prop} {u U : State} (h : STA A u u.heap) (hv : u.vm = U.vm) (hh : U.heap = u.heap) : STA A U U.heap := by
  obtain ⟨⟨t, h1, h2⟩, ⟨t2, h3, h4⟩, ⟨ks, kv, h5, h6⟩⟩ := h
  have ha : u.vm.Alike U.vm := by rw [← hv]; exact Vm.Alike.refl u.vm
  refine ⟨⟨t, ?_, ?_⟩, ⟨t2, ?_, ?_⟩, ⟨ks, kv, h5.same ha hh, h6.same hv.symm⟩⟩
  · rw [hh]; exact h1.moved ha
  · rw [hh]; exact h2.moved ha
  · rw [hh]; exact h3.moved ha
  · rw [hh]; exact h4.moved ha
def PcS (D : va_G) (tys : List (ClassId × FieldType)) (ws : va_W) (sz : Nat) (av : List Value) (A : Nat → Prop) : Array Value → State → Prop := va_Pc av (fun U => U.heap.size = sz ∧ va_P D vwCl ws U.heap ∧ va_K D vwCl tys U ∧ va_D (fun _ => True) ws ∧ ENV U ∧ STA A U U.heap)
theorem PcS.blind {D : va_G} {tys : List (ClassId × FieldType)} {ws : va_W} {sz : Nat} {av : List Value} {A : Nat → Prop} : FrameBlind (PcS D tys ws sz av A) := by
  intro a U g mk q
  obtain ⟨q0, q1, qP, qK, qD, qN, qS⟩ := q
  exact ⟨q0, q1, qP, va_K.moved (u := U) (U := U.calling g mk a) (Vm.Alike.refl U.vm) qK, qD, ENV.same (u := U) (U := U.calling g mk a) rfl qN, STA.same (u := U) (U := U.calling g mk a) qS rfl rfl⟩
theorem pVS {s : State} {H : Heap} {locs : List Loc} {b : Nat} {D : va_G} {tys : List (ClassId × FieldType)} {wc : va_W} {A A0 B : Nat → Prop} {As : List Value} {q0 ci : Nat} {q : vw_C} {fs : List Value} (hK : va_K D vwCl tys s) (hP : va_P D vwCl wc H) (hD : va_D A wc) (hN : ENV s) (hT : STA A0 s s.heap) (hS : va_S A0 s.heap H locs) (hB : ∀ q, B q → A0 q) (he : wc[q0]? = some (b, .inr (ci, fs))) (hc : vwCl[ci]? = some q) : PreV s H q.1 b (PcS D tys wc H.size (.ref b :: As) B) As :=
  ⟨PcS.blind, va_recv hK hP hc he, fun U hU hW => ⟨rfl, by rw [hU], by rw [hU]; exact hP, va_K.moved hW.alike hK, hD.weaken (fun _ _ _ _ => trivial), hN.warm hW, hT.use hS hB hU hW⟩⟩
def PcG (D : va_G) (tys : List (ClassId × FieldType)) (ws : va_W) (sz : Nat) (av : List Value) : Array Value → State → Prop := va_Pc av (fun U => U.heap.size = sz ∧ va_P D vwCl ws U.heap ∧ va_K D vwCl tys U ∧ va_D (fun _ => True) ws ∧ ENV U)
theorem PcG.blind {D : va_G} {tys : List (ClassId × FieldType)} {ws : va_W} {sz : Nat} {av : List Value} : FrameBlind (PcG D tys ws sz av) := by
  intro a U g mk q
  obtain ⟨q0, q1, qP, qK, qD, qN⟩ := q
  exact ⟨q0, q1, qP, va_K.moved (u := U) (U := U.calling g mk a) (Vm.Alike.refl U.vm) qK, qD, ENV.same (u := U) (U := U.calling g mk a) rfl qN⟩
theorem pV {s : State} {H : Heap} {b : Nat} {D : va_G} {tys : List (ClassId × FieldType)} {wc : va_W} {A : Nat → Prop} {As : List Value} {q0 ci : Nat} {q : vw_C} {fs : List Value} (hK : va_K D vwCl tys s) (hP : va_P D vwCl wc H) (hD : va_D A wc) (hN : ENV s) (he : wc[q0]? = some (b, .inr (ci, fs))) (hc : vwCl[ci]? = some q) : PreV s H q.1 b (PcG D tys wc H.size (.ref b :: As)) As :=
  ⟨PcG.blind, va_recv hK hP hc he, fun U hU hW => ⟨rfl, by rw [hU], by rw [hU]; exact hP, va_K.moved hW.alike hK, hD.weaken (fun _ _ _ _ => trivial), hN.warm hW⟩⟩
theorem pS {s : State} {H : Heap} {D : va_G} {tys : List (ClassId × FieldType)} {wc : va_W} {A : Nat → Prop} {As : List Value} (hK : va_K D vwCl tys s) (hP : va_P D vwCl wc H) (hD : va_D A wc) (hN : ENV s) : PreS s H (PcG D tys wc H.size As) As :=
  ⟨PcG.blind, fun U hU hW => ⟨rfl, by rw [hU], by rw [hU]; exact hP, va_K.moved hW.alike hK, hD.weaken (fun _ _ _ _ => trivial), hN.warm hW⟩⟩
theorem va_P_nil {D : va_G} {cl : List vw_C} {H : Heap} : va_P D cl [] H := fun k q h => by simp at h
theorem va_D_nil : va_D (fun _ => True) [] := ⟨fun i j p q h => by simp at h, fun k q h => by simp at h⟩
theorem ro_not {sz q : Nat} (h : q < sz) : ¬ va_A [] sz q := fun z => by
  rcases z with ⟨k, e, z⟩ | z
  · simp at z
  · omega
theorem ro_keep {D : va_G} {cl : List vw_C} {ws : va_W} {H H1 : Heap} (hP : va_P D cl ws H) (hk : ∀ q : Nat, q < H.size → ¬ va_A [] H.size q → H1[q]? = H[q]?) : va_P D cl ws H1 :=
  hP.kept (fun k q hq => hk q.1 (hP k q hq).lt (ro_not (hP k q hq).lt))
theorem roF {A : Nat → Prop} {H0 H : Heap} {locs : List Loc} (hS : va_S A H0 H locs) (hA : ∀ q : Nat, H0.size ≤ q → A q) : ∀ q : Nat, va_A [] H.size q → A q := fun q h => by
  rcases h with ⟨k, e, z⟩ | z
  · simp at z
  · exact hA q (Nat.le_trans hS.1 z)
theorem vp_mono {x : Int32} {n N : Nat} (h : vp_in x n) (hn : n ≤ N) : vp_in x N := fun z => h (z.imp id (fun q => Nat.le_trans hn q))
theorem lp_ge {x y : Int32} {j N : Nat} (ex : x = nI j) (ey : y = nI N) (hj : j < 2 ^ 31) (hN : N < 2 ^ 31) (c : ¬ y ≤ x) : j < N := by
  rcases Nat.lt_or_ge j N with h | h
  · exact h
  · exact absurd (by rw [ex, ey]; exact nI_le h hj) c
theorem lp_gt {x y : Int32} {j N : Nat} (ex : x = nI j) (ey : y = nI N) (hj : j < 2 ^ 31) (hN : N < 2 ^ 31) (c : ¬ y < x) : j < N + 1 := by
  rcases Nat.lt_or_ge N j with h | h
  · exact absurd (by rw [ex, ey]; exact nI_lt h hj) c
  · omega
theorem fb_rng (x : Int32) : -2147483648 ≤ x.toInt ∧ x.toInt < 2147483648 := by
  have h1 := Int32.le_toInt x
  have h2 := Int32.toInt_lt x
  omega
theorem fb_bmod {z : Int} (h1 : -2147483648 ≤ z) (h2 : z < 2147483648) : z.bmod (2 ^ 32) = z := by
  rw [Int.bmod_eq_of_le (by omega) (by omega)]
theorem fb_addI {x y : Int32} (h1 : -2147483648 ≤ x.toInt + y.toInt) (h2 : x.toInt + y.toInt < 2147483648) : (x + y).toInt = x.toInt + y.toInt := by
  rw [Int32.toInt_add, fb_bmod h1 h2]
theorem fb_subI {x y : Int32} (h1 : -2147483648 ≤ x.toInt - y.toInt) (h2 : x.toInt - y.toInt < 2147483648) : (x - y).toInt = x.toInt - y.toInt := by
  rw [Int32.toInt_sub, fb_bmod h1 h2]
theorem fb_mulI {x y : Int32} (h1 : -2147483648 ≤ x.toInt * y.toInt) (h2 : x.toInt * y.toInt < 2147483648) : (x * y).toInt = x.toInt * y.toInt := by
  rw [Int32.toInt_mul, fb_bmod h1 h2]
theorem sh_step {x4 p3 x6 : Int32} {t i3 : Nat} (e6 : x6 = x4 - 1 - nI t) (e3 : p3 = nI i3) (h3 : i3 < 2 ^ 31) (hlt : p3 < x4) (ht : t ≤ i3) (c : ¬ x6 < x4 - p3) : t + 1 ≤ i3 := by
  have h4 := fb_rng x4
  have q3 : p3.toInt = i3 := by rw [e3, nI_toInt h3]
  have q1 : (1 : Int32).toInt = 1 := by decide
  have qt : (nI t).toInt = t := nI_toInt (by omega)
  rw [Int32.lt_iff_toInt_lt, q3] at hlt
  have a1 : (x4 - 1).toInt = x4.toInt - 1 := by rw [fb_subI (by rw [q1]; omega) (by rw [q1]; omega), q1]
  have a2 : x6.toInt = x4.toInt - 1 - t := by rw [e6, fb_subI (by rw [a1, qt]; omega) (by rw [a1, qt]; omega), a1, qt]
  have a3 : (x4 - p3).toInt = x4.toInt - i3 := by rw [fb_subI (by rw [q3]; omega) (by rw [q3]; omega), q3]
  rw [Int32.lt_iff_toInt_lt, a2, a3] at c
  omega
theorem sub_nI_1 (x : Int32) (t : Nat) : x - nI t + (-1) = x - nI (t + 1) := by
  rw [nI_succ, Int32.sub_eq_add_neg, Int32.sub_eq_add_neg, Int32.neg_add, Int32.sub_eq_add_neg, Int32.add_assoc]
theorem or_nn {x : Int32} {n : Nat} (h : x = -1 ∨ vp_in x n) (c : 0 ≤ x) : vp_in x n := by
  rcases h with h | h
  · exact absurd (by rw [h] at c; exact c) (show ¬ (0 : Int32) ≤ -1 by decide)
  · exact h
theorem nar_bool {r : Int32} (h : r = 0 ∨ r = 1) : narrow .boolean (.int r) = .int r := by
  rcases h with h | h <;> rw [h] <;> rfl
theorem lv_eqi {p : Program} {l : Launch} {e : Env} {R : Room} {s : State} {m : MethodId} {args : Array Value} {below : List Frame} {meth : Method} {c : Code} {H : Heap} {locs : List Loc} {cells slots : Nat} {Q : State → Prop} {pc : Nat} {ls : Array Slot} {rest : List Value} {x y : Int32} (h : x = y) (k : W p l e R s m args below meth c H locs cells slots Q (F0 m pc ls (.int y :: rest))) : W p l e R s m args below meth c H locs cells slots Q (F0 m pc ls (.int x :: rest)) := by
  rw [h]; exact k
def PK (P : SR) (k N : Nat) : Prop := P 1 1 = nI k ∧ P 1 0 = nI N ∧ k ≤ N ∧ N ≤ 140
def WFP (P : SR) : Prop := ∃ k N : Nat, PK P k N
def LN (P : SR) : Prop := vp_in (P 1 0) 141
def ms (P : SR) : Nat := (P 1 0).toNatClampNeg - (P 1 1).toNatClampNeg
def FK (x : Int32) (P : SR) : Prop := ∃ f k N : Nat, x = nI f ∧ PK P k N ∧ f ≤ k
theorem wfp_lt {P : SR} {k N : Nat} (h : PK P k N) (c : ¬ P 1 0 ≤ P 1 1) : k < N := by
  obtain ⟨h1, h2, h3, h4⟩ := h
  exact lp_ge h1 h2 (by omega) (by omega) c
theorem wfp_in {P : SR} (h : WFP P) (c : ¬ P 1 0 ≤ P 1 1) : vp_in (P 1 1) 140 := by
  obtain ⟨k, N, hk⟩ := h
  have := wfp_lt hk c
  obtain ⟨h1, h2, h3, h4⟩ := hk
  rw [h1]
  exact vp_in_nI (by omega) (by decide)
theorem wfp_inc {P : SR} (h : WFP P) (c : ¬ P 1 0 ≤ P 1 1) : WFP (sU P 1 1 (P 1 1 + 1)) := by
  obtain ⟨k, N, hk⟩ := h
  have := wfp_lt hk c
  obtain ⟨h1, h2, h3, h4⟩ := hk
  exact ⟨k + 1, N, by show P 1 1 + 1 = _; rw [h1, nI_1], h2, by omega, h4⟩
theorem ms_inc {P : SR} (h : WFP P) (c : ¬ P 1 0 ≤ P 1 1) : ms (sU P 1 1 (P 1 1 + 1)) < ms P := by
  obtain ⟨k, N, hk⟩ := h
  have := wfp_lt hk c
  obtain ⟨h1, h2, h3, h4⟩ := hk
  show (P 1 0).toNatClampNeg - (P 1 1 + 1).toNatClampNeg < (P 1 0).toNatClampNeg - (P 1 1).toNatClampNeg
  rw [h1, h2, nI_1, nI_clamp (by omega), nI_clamp (by omega), nI_clamp (by omega)]
  omega
theorem ms_back {a b n : Nat} (h : a < b) (hm : b < n + 1) : a < n := by omega
theorem ms_lt {P : SR} (h : WFP P) : ms P < 142 := by
  obtain ⟨k, N, h1, h2, h3, h4⟩ := h
  unfold ms
  rw [h1, h2, nI_clamp (by omega), nI_clamp (by omega)]
  omega
theorem wfp_zero {P : SR} (h : LN P) : WFP (sU P 1 1 0) := by
  obtain ⟨j, hj, e⟩ := vp_in_of h (by decide)
  exact ⟨0, j, nI_0.symm, e, Nat.zero_le _, by omega⟩
theorem wfp_ln {P : SR} (h : WFP P) : LN P := by
  obtain ⟨k, N, h1, h2, h3, h4⟩ := h
  unfold LN
  rw [h2]
  exact vp_in_nI (by omega) (by decide)
theorem fk_0 {P : SR} (h : WFP P) : FK (P 1 1) P := by
  obtain ⟨k, N, h1, h2⟩ := h
  exact ⟨k, k, N, h1, ⟨h1, h2⟩, Nat.le_refl _⟩
theorem fk_inc {x : Int32} {P : SR} (h : FK x P) (c : ¬ P 1 0 ≤ P 1 1) : FK x (sU P 1 1 (P 1 1 + 1)) := by
  obtain ⟨f, k, N, hx, hk, hf⟩ := h
  have := wfp_lt hk c
  obtain ⟨h1, h2, h3, h4⟩ := hk
  exact ⟨f, k + 1, N, hx, ⟨by show P 1 1 + 1 = _; rw [h1, nI_1], h2, by omega, h4⟩, by omega⟩
theorem fk_wfp {x : Int32} {P : SR} (h : FK x P) : WFP P := by
  obtain ⟨f, k, N, hx, hk, hf⟩ := h
  exact ⟨k, N, hk⟩
theorem fk_first {x : Int32} {P : SR} (h : FK x P) : WFP (sU P 1 1 x) := by
  obtain ⟨f, k, N, hx, ⟨h1, h2, h3, h4⟩, hf⟩ := h
  exact ⟨f, N, hx, h2, by omega, h4⟩
theorem fk_in {x : Int32} {P : SR} (h : FK x P) (c : ¬ P 1 1 - x ≤ 1) : vp_in x 140 := by
  obtain ⟨f, k, N, hx, ⟨h1, h2, h3, h4⟩, hf⟩ := h
  rcases Nat.lt_or_ge f 140 with h5 | h5
  · rw [hx]; exact vp_in_nI h5 (by decide)
  · exfalso
    apply c
    rw [h1, hx, show k = f by omega, Int32.sub_self]
    decide
def rdOK (r y : Int32) : Prop := r = -1 ∨ (¬ r < 0 ∧ ¬ y < r)
theorem rd_vp {r y : Int32} {n : Nat} (h : rdOK r y) (c : ¬ r = -1) (hy : y = nI n := by decide +kernel) (hn : n < 2 ^ 31 := by decide) : vp_in r (n + 1) := by
  rcases h with h | ⟨h1, h2⟩
  · exact absurd h c
  · obtain ⟨j, hj, e⟩ := nI_of h1
    have := lp_gt e hy hj hn h2
    rw [e]
    exact fun z => by
      rcases z with z | z
      · exact nI_pos hj z
      · rw [nI_clamp hj] at z; omega
theorem vp_nn {x : Int32} {n : Nat} (h : vp_in x n) : ¬ x < 0 := fun z => h (Or.inl z)
theorem num_in {x d : Int32} (hx : vp_in x 10000) (hd : vp_in d 10) : vp_in (if 9999 < 10 * x + d then 9999 else 10 * x + d) 10000 := by
  obtain ⟨hx1, hx2⟩ := vp_in_iff.mp hx
  obtain ⟨hd1, hd2⟩ := vp_in_iff.mp hd
  have q : (10 : Int32).toInt = 10 := by decide
  have a1 : (10 * x).toInt = 10 * x.toInt := by rw [fb_mulI (by rw [q]; omega) (by rw [q]; omega), q]
  have a2 : (10 * x + d).toInt = 10 * x.toInt + d.toInt := by rw [fb_addI (by rw [a1]; omega) (by rw [a1]; omega), a1]
  by_cases c : (9999 : Int32) < 10 * x + d
  · rw [if_pos c]; exact vp_of_B (by decide +kernel)
  · rw [if_neg c]
    rw [Int32.lt_iff_toInt_lt, a2] at c
    have q2 : (9999 : Int32).toInt = 9999 := by decide
    rw [q2] at c
    exact vp_in_iff.mpr ⟨by rw [a2]; omega, by rw [a2]; omega⟩
theorem cp_full {f g : Nat → Int32} {n q : Nat} (hq : q < n) : va_cpy f g 0 0 n q = f q := by
  unfold va_cpy
  rw [if_pos ⟨Nat.zero_le _, by omega⟩]
  simp
theorem cp_from {f g : Nat → Int32} {n q sp : Nat} (hq : q < n) : va_cpy f g sp 0 n q = f (sp + q) := by
  unfold va_cpy
  rw [if_pos ⟨Nat.zero_le _, by omega⟩]
  simp
theorem cell_same {cA : ClassId} {n : Nat} {f g : Nat → Int32} (h : ∀ q, q < n → f q = g q) : vp_cell cA (n, .inl f) = vp_cell cA (n, .inl g) := by
  rw [vp_cell_i, vp_cell_i]
  unfold arrV
  congr 1
  congr 1
  funext j
  show Value.int (f j.val) = Value.int (g j.val)
  rw [h j.val j.isLt]
theorem set_same {D : va_G} {cl : List vw_C} {A : Nat → Prop} {ws : va_W} {H : Heap} {q1 a : Nat} {cA : ClassId} {n : Nat} {f g : Nat → Int32} (e : ∀ q, q < n → f q = g q) (hP : va_P D cl (ws.set q1 (a, .inl (cA, n, .inl f))) H) (hD : va_D A (ws.set q1 (a, .inl (cA, n, .inl f)))) : va_P D cl (ws.set q1 (a, .inl (cA, n, .inl g))) H ∧ va_D A (ws.set q1 (a, .inl (cA, n, .inl g))) := by
  have key : ∀ (k : Nat) (q : Nat × va_E), (ws.set q1 (a, .inl (cA, n, .inl g)))[k]? = some q → ∃ q', (ws.set q1 (a, .inl (cA, n, .inl f)))[k]? = some q' ∧ q'.1 = q.1 ∧ ∀ H, va_at D cl q' H → va_at D cl q H := by
    intro k q hk
    rw [List.getElem?_set] at hk ⊢
    by_cases h1 : q1 = k
    · rw [if_pos h1] at hk ⊢
      by_cases h2 : q1 < ws.length
      · rw [if_pos h2] at hk ⊢
        cases hk
        refine ⟨_, rfl, rfl, fun H h => ?_⟩
        show H[a]? = some (vp_cell cA (n, .inl g))
        rw [← cell_same e]
        exact h
      · rw [if_neg h2] at hk
        cases hk
    · rw [if_neg h1] at hk ⊢
      exact ⟨q, hk, rfl, fun _ h => h⟩
  refine ⟨fun k q hk => ?_, fun i j p q hi hj hpq => ?_, fun k q hk => ?_⟩
  · obtain ⟨q', h1, h2, h3⟩ := key k q hk
    exact h3 H (hP k q' h1)
  · obtain ⟨p', h1, h2, -⟩ := key i p hi
    obtain ⟨q', g1, g2, -⟩ := key j q hj
    exact hD.1 i j p' q' h1 g1 (by rw [h2, g2, hpq])
  · obtain ⟨q', h1, h2, -⟩ := key k q hk
    rw [← h2]
    exact hD.2 k q' h1
section CPT
variable {p : Program} {l : Launch} {e : Env} {R : Room} {s : State} {m : MethodId} {args : Array Value} {below : List Frame} {meth : Method} {c : Code} {H : Heap} {locs : List Loc} {cells slots : Nat} {Q : State → Prop}
variable {pc : Nat} {ls : Array Slot} {rest : List Value} {D : va_G} {cl : List vw_C} {A : Nat → Prop} {a : Nat} {tys : List (ClassId × FieldType)} {ws : va_W} {H0 : Heap}
theorem va_copyT {cc : ByteArray} {h : Nat → Int32} (hexec : p.tables.exec = Jvm.exec) (hb : c.code = cc) (hml : c.maxLocals = ls.size) {own : String} {index : Nat} (hown : s.vm.findClass own = some m.cls) (hlink : (Cond.methodLink own index arraycopyName).before args s = true) (hnat : (Cond.native arraycopyName).before args s = true) (hstat : (Cond.static arraycopyName).before args s = true) (hini : (Cond.initialized "java/lang/System").before args s = true)
    (hK : va_K D cl tys s) (hP : va_P D cl ws H) (hD : va_D A ws) (hS : va_S A H0 H locs) (q0 q1 t0 t1 : Nat) {a0 : Nat} {c0 c1 : ClassId} {n0 n1 : Nat} {f g : Nat → Int32} {ty : FieldType} (ha0 : ws[q0]? = some (a0, .inl (c0, n0, .inl f))) (ha1 : ws[q1]? = some (a, .inl (c1, n1, .inl g))) (ht0 : tys[t0]? = some (c0, ty)) (ht1 : tys[t1]? = some (c1, ty)) (hprim : refKind ty = false)
    {sp dp n : Int32} (h1 : ¬ sp < 0) (h2 : ¬ dp < 0) (h3 : ¬ n < 0) (h4 : sp.toNatClampNeg + n.toNatClampNeg ≤ n0) (h5 : dp.toNatClampNeg + n.toNatClampNeg ≤ n1) (hfit : ∀ i, i < n.toNatClampNeg → fits ty (.int (f (sp.toNatClampNeg + i))) = true)
    (heq : ∀ q, q < n1 → va_cpy f g sp.toNatClampNeg dp.toNatClampNeg n.toNatClampNeg q = h q)
    (hframes : 1 ≤ R.frames) (hlocals : (rest.map fun v => v.category).sum + (nativeFrameWords "java/lang/System" "arraycopy" 5 + 11) ≤ R.locals) (hdg : decode cc pc = .ok (.invokestatic index, 3))
    (kk : ∀ (H1 : Heap) (locs1 : List Loc), va_P D cl (ws.set q1 (a, .inl (c1, n1, .inl h))) H1 → va_D A (ws.set q1 (a, .inl (c1, n1, .inl h))) → va_S A H0 H1 locs1 → W p l e R s m args below meth c H1 locs1 cells slots Q (F0 m (pc + 3) ls rest)) : W p l e R s m args below meth c H locs cells slots Q (F0 m pc ls (.int n :: .int dp :: .ref a :: .int sp :: .ref a0 :: rest)) :=
  va_copyi hexec hb hml hown hlink hnat hstat hini hK hP hD hS q0 q1 t0 t1 ha0 ha1 ht0 ht1 hprim h1 h2 h3 h4 h5 hfit hframes hlocals hdg (fun H1 locs1 hP1 hD1 hS1 => by
    obtain ⟨k1, k2⟩ := set_same heq hP1 hD1
    exact kk H1 locs1 k1 k2 hS1)
end CPT
