def cMd (a : Nat → Nat) (cI : ClassId) (R : SR) : va_W := [(a 0, .inr (6, [.int (R 6 0), .ref (a 1), .ref (a 2), .ref (a 3), .int (R 6 1), .ref (a 4), .int (R 6 2), .int (R 6 3), .int (R 6 4), .ref (a 5), .ref (a 6), .int (R 6 5), .int (R 6 6), .int (R 6 7), .int (R 6 8)])), (a 1, .inl (cI, 289, .inl (R 0))), (a 2, .inl (cI, 289, .inl (R 1))), (a 3, .inl (cI, 1445, .inl (R 2))), (a 4, .inl (cI, 140, .inl (R 3))), (a 5, .inl (cI, 4, .inl (R 4))), (a 6, .inl (cI, 4, .inl (R 5)))]
def WS (f : Nat → Int32) : Prop := (∀ j : Nat, j < 4 → f (84 + j) = -1 ∨ vp_in (f (84 + j)) 12) ∧ (0 ≤ f 144 → ¬ f 145 = 0)
def RA (R : SR) : Prop := ∀ j : Nat, j < 4 → R 0 (84 + j) = -1 ∨ vp_in (R 0 (84 + j)) 12
def RS (R : SR) : Prop := 0 ≤ R 0 144 → ¬ R 0 145 = 0
def okR (k : Nat) : Bool := !(Nat.ble 84 k && Nat.blt k 88)
def okT (k : Nat) : Bool := !(Nat.beq k 144) && !(Nat.beq k 145)
theorem s_other {R : SR} {k j : Nat} {v : Int32} (h : j ≠ k) : (sU R 0 k v) 0 j = R 0 j := by
  show (if j = k then v else R 0 j) = R 0 j
  rw [if_neg h]
theorem ra_s {R : SR} (h : RA R) {k : Nat} {v : Int32} (hb : okR k = true) : RA (sU R 0 k v) := by
  intro j hj
  rw [s_other (fun e => by rw [← e] at hb; rcases (show j = 0 ∨ j = 1 ∨ j = 2 ∨ j = 3 by omega) with rfl | rfl | rfl | rfl <;> cases hb)]
  exact h j hj
theorem ra_ret {R : SR} (h : RA R) {k : Nat} {v : Int32} (hv : v = -1 ∨ vp_in v 12) : RA (sU R 0 k v) := by
  intro j hj
  by_cases e : 84 + j = k
  · rw [← e]
    show (if 84 + j = 84 + j then v else R 0 (84 + j)) = -1 ∨ vp_in (if 84 + j = 84 + j then v else R 0 (84 + j)) 12
    rw [if_pos rfl]; exact hv
  · rw [s_other e]; exact h j hj
theorem rs_s {R : SR} (h : RS R) {k : Nat} {v : Int32} (hb : okT k = true) : RS (sU R 0 k v) := by
  have h1 : (144 : Nat) ≠ k := fun e => by rw [← e] at hb; cases hb
  have h2 : (145 : Nat) ≠ k := fun e => by rw [← e] at hb; cases hb
  unfold RS
  rw [s_other h1, s_other h2]
  exact h
theorem rs_n {R : SR} (h : ¬ R 0 145 = 0) : RS R := fun _ => h
theorem rs_neg {R : SR} {v : Int32} (hv : v < 0) : RS (sU R 0 144 v) := fun h => by
  have h1 : (sU R 0 144 v) 0 144 = v := rfl
  rw [h1] at h
  exact absurd h (Int32.not_le.mpr hv)
def ok5 (k : Nat) : Bool := !(Nat.beq k 145)
def ok4 (k : Nat) : Bool := !(Nat.beq k 144)
theorem ne5 {k : Nat} (h : ok5 k = true) : (145 : Nat) ≠ k := fun e => by rw [← e] at h; cases h
theorem ne4 {k : Nat} (h : ok4 k = true) : (144 : Nat) ≠ k := fun e => by rw [← e] at h; cases h
theorem n_s {R : SR} (h : ¬ R 0 145 = 0) {k : Nat} {v : Int32} (hb : ok5 k = true) : ¬ (sU R 0 k v) 0 145 = 0 := by rw [s_other (ne5 hb)]; exact h
theorem e5_s {R : SR} {x : Int32} (h : R 0 145 = x) {k : Nat} {v : Int32} (hb : ok5 k = true) : (sU R 0 k v) 0 145 = x := by rw [s_other (ne5 hb)]; exact h
theorem e4_s {R : SR} {x : Int32} (h : R 0 144 = x) {k : Nat} {v : Int32} (hb : ok4 k = true) : (sU R 0 k v) 0 144 = x := by rw [s_other (ne4 hb)]; exact h
theorem rs_eq {R R1 : SR} (h : RS R) (h4 : R1 0 144 = R 0 144) (h5 : R1 0 145 = R 0 145) : RS R1 := by
  unfold RS
  rw [h4, h5]
  exact h
theorem ra_eq {R R1 : SR} (h : RA R) (e : R1 0 = R 0) : RA R1 := by
  unfold RA
  rw [e]
  exact h
theorem rs_eq0 {R R1 : SR} (h : RS R) (e : R1 0 = R 0) : RS R1 := by
  unfold RS
  rw [e]
  exact h
def FX (R R1 : SR) : Prop := R1 1 = R 1 ∧ R1 2 = R 2 ∧ R1 3 = R 3 ∧ R1 6 1 = R 6 1 ∧ R1 6 2 = R 6 2
theorem fx_rf {R : SR} : FX R R := ⟨rfl, rfl, rfl, rfl, rfl⟩
theorem fx_tr {A B C : SR} (h : FX A B) (g : FX B C) : FX A C := ⟨g.1.trans h.1, g.2.1.trans h.2.1, g.2.2.1.trans h.2.2.1, g.2.2.2.1.trans h.2.2.2.1, g.2.2.2.2.trans h.2.2.2.2⟩
def vw (R : SR) : SR := fun r k => if r = 1 then (if k = 0 then R 6 2 else R 6 3) else R 3 k
def WFT (R : SR) : Prop := WFP (vw R)
theorem wft_in {R : SR} (h : WFT R) (c : ¬ R 6 2 ≤ R 6 3) : vp_in (R 6 3) 140 := wfp_in (P := vw R) h c
theorem wft_inc {R : SR} (h : WFT R) (c : ¬ R 6 2 ≤ R 6 3) : WFT (sU R 6 3 (R 6 3 + 1)) := wfp_inc (P := vw R) h c
theorem wft_ms {R : SR} (h : WFT R) (c : ¬ R 6 2 ≤ R 6 3) : ms (vw (sU R 6 3 (R 6 3 + 1))) < ms (vw R) := ms_inc (P := vw R) h c
