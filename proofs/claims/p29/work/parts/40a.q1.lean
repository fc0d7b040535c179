/-! p29, 1: a sane state: the ranges of what it keeps, at most one feed into a channel -/
theorem vu_eq {α : Type} {f : Nat → α} {k : Nat} {v : α} : va_up f k v k = v := if_pos rfl
theorem vu_ne {α : Type} {f : Nat → α} {k j : Nat} {v : α} (h : j ≠ k) : va_up f k v j = f j := if_neg h
theorem up_eq {f : Nat → Int32} {k : Nat} {v : Int32} : upd f k v k = v := if_pos rfl
theorem up_ne {f : Nat → Int32} {k j : Nat} {v : Int32} (h : j ≠ k) : upd f k v j = f j := if_neg h
theorem sU_eq {R : SR} {r k : Nat} {v : Int32} : sU R r k v r k = v := by
  unfold sU
  rw [vu_eq]
  exact if_pos rfl
theorem sU_ne {R : SR} {r k j : Nat} {v : Int32} (h : j ≠ k) : sU R r k v r j = R r j := by
  unfold sU
  rw [vu_eq]
  exact if_neg h
theorem sU_row {R : SR} {r q k : Nat} {v : Int32} (h : q ≠ r) : sU R r k v q = R q := by
  unfold sU
  exact vu_ne h
theorem nI_mul (a b : Nat) : nI a * nI b = nI (a * b) := (Int32.ofNat_mul a b).symm
theorem nI_sub {a b : Nat} (h : b ≤ a) : nI a - nI b = nI (a - b) := by
  have e : nI a = nI (a - b) + nI b := by rw [nI_add, show a - b + b = a by omega]
  rw [e, Int32.add_sub_cancel]
def IN (x : Int32) (n : Nat) : Prop := ∃ k : Nat, k ≤ n ∧ x = nI k
theorem in_le {x : Int32} {a b : Nat} (h : IN x a) (hb : a ≤ b) : IN x b := by
  obtain ⟨k, h1, h2⟩ := h
  exact ⟨k, by omega, h2⟩
theorem in_0 {n : Nat} : IN 0 n := ⟨0, by omega, nI_0.symm⟩
theorem in_n {k n : Nat} (h : k ≤ n) : IN (nI k) n := ⟨k, h, rfl⟩
theorem in_ge {x : Int32} {n : Nat} (h : IN x n) (hn : n < 2 ^ 31) : ¬ x < 0 := by
  obtain ⟨k, h1, rfl⟩ := h
  exact nI_pos (by omega)
/-- a product, a hundredth of it -/
theorem in_part {x y : Int32} {a b : Nat} (hx : IN x a) (hy : IN y b) (h : a * b < 2 ^ 31) : IN (x * y / 100) (a * b / 100) := by
  obtain ⟨j, h1, rfl⟩ := hx
  obtain ⟨k, h2, rfl⟩ := hy
  have hp : j * k ≤ a * b := Nat.mul_le_mul h1 h2
  rw [nI_mul, show (100 : Int32) = nI 100 from rfl, pk_div (by omega) (by omega) (by omega)]
  exact ⟨j * k / 100, Nat.div_le_div_right hp, rfl⟩
theorem in_add {x y : Int32} {a b : Nat} (hx : IN x a) (hy : IN y b) : IN (x + y) (a + b) := by
  obtain ⟨j, h1, rfl⟩ := hx
  obtain ⟨k, h2, rfl⟩ := hy
  exact ⟨j + k, by omega, nI_add j k⟩
def TN (f : Nat → Int32) (m n : Nat) : Prop := ∀ j : Nat, j < m → IN (f j) n
theorem tn_up {f : Nat → Int32} {m n k : Nat} {v : Int32} (h : TN f m n) (hv : IN v n) : TN (upd f k v) m n := fun j hj => by
  by_cases e : j = k
  · subst e; rw [up_eq]; exact hv
  · rw [up_ne e]; exact h j hj
def RET (f : Nat → Int32) : Prop := (∀ j : Nat, j < 4 → f j = -1 ∨ IN (f j) 11) ∧ ∀ i j : Nat, i < 4 → j < 4 → i ≠ j → f i = f j → f i = -1
def FD (f : Nat → Int32) : Prop := IN (f 0) 5 ∧ ∃ st tk : Nat, f 1 = nI st ∧ f 2 = nI tk ∧ tk ≤ 100 ∧ (st < tk ∨ (st = 0 ∧ tk = 0))
def CT (f : Nat → Int32) : Prop := IN (f 4) 119988 ∧ IN (f 5) 119988 ∧ IN (f 7) 63
def OW (f : Nat → Int32) : Prop := ∀ j : Nat, j < 4 → vp_in (f j) 4096
def SC (f : Nat → Int32) : Prop := ∀ k : Nat, k < 6 → ∀ j : Nat, j < 16 → IN (f (17 * k + j)) 100
/-- all rows but the fade's counts -/
def SAN (M : SR) : Prop := TN (M 0) 12 1000 ∧ TN (M 1) 16 100 ∧ TN (M 2) 12 15 ∧ TN (M 3) 48 100 ∧ OW (M 4) ∧ RET (M 5) ∧ TN (M 6) 12 9999 ∧ TN (M 7) 4 9999 ∧ SC (M 8) ∧ TN (M 9) 16 100 ∧ CT (M 10)
def SANE (M : SR) : Prop := SAN M ∧ FD (M 11)
theorem s_0 {M : SR} (h : SAN M) : TN (M 0) 12 1000 := h.1
theorem s_1 {M : SR} (h : SAN M) : TN (M 1) 16 100 := h.2.1
theorem s_2 {M : SR} (h : SAN M) : TN (M 2) 12 15 := h.2.2.1
theorem s_3 {M : SR} (h : SAN M) : TN (M 3) 48 100 := h.2.2.2.1
theorem s_4 {M : SR} (h : SAN M) : OW (M 4) := h.2.2.2.2.1
theorem s_5 {M : SR} (h : SAN M) : RET (M 5) := h.2.2.2.2.2.1
theorem s_6 {M : SR} (h : SAN M) : TN (M 6) 12 9999 := h.2.2.2.2.2.2.1
theorem s_7 {M : SR} (h : SAN M) : TN (M 7) 4 9999 := h.2.2.2.2.2.2.2.1
theorem s_8 {M : SR} (h : SAN M) : SC (M 8) := h.2.2.2.2.2.2.2.2.1
theorem s_9 {M : SR} (h : SAN M) : TN (M 9) 16 100 := h.2.2.2.2.2.2.2.2.2.1
theorem s_10 {M : SR} (h : SAN M) : CT (M 10) := h.2.2.2.2.2.2.2.2.2.2
theorem san_0 {M : SR} {g : Nat → Int32} (h : SAN M) (hg : TN g 12 1000) : SAN (va_up M 0 g) := by
  obtain ⟨a0, a1, a2, a3, a4, a5, a6, a7, a8, a9, a10⟩ := h
  refine ⟨?_, ?_, ?_, ?_, ?_, ?_, ?_, ?_, ?_, ?_, ?_⟩
  · rw [vu_eq]; exact hg
  · rw [vu_ne (by decide)]; exact a1
  · rw [vu_ne (by decide)]; exact a2
  · rw [vu_ne (by decide)]; exact a3
  · rw [vu_ne (by decide)]; exact a4
  · rw [vu_ne (by decide)]; exact a5
  · rw [vu_ne (by decide)]; exact a6
  · rw [vu_ne (by decide)]; exact a7
  · rw [vu_ne (by decide)]; exact a8
  · rw [vu_ne (by decide)]; exact a9
  · rw [vu_ne (by decide)]; exact a10
theorem san_1 {M : SR} {g : Nat → Int32} (h : SAN M) (hg : TN g 16 100) : SAN (va_up M 1 g) := by
  obtain ⟨a0, a1, a2, a3, a4, a5, a6, a7, a8, a9, a10⟩ := h
  refine ⟨?_, ?_, ?_, ?_, ?_, ?_, ?_, ?_, ?_, ?_, ?_⟩
  · rw [vu_ne (by decide)]; exact a0
  · rw [vu_eq]; exact hg
  · rw [vu_ne (by decide)]; exact a2
  · rw [vu_ne (by decide)]; exact a3
  · rw [vu_ne (by decide)]; exact a4
  · rw [vu_ne (by decide)]; exact a5
  · rw [vu_ne (by decide)]; exact a6
  · rw [vu_ne (by decide)]; exact a7
  · rw [vu_ne (by decide)]; exact a8
  · rw [vu_ne (by decide)]; exact a9
  · rw [vu_ne (by decide)]; exact a10
theorem san_2 {M : SR} {g : Nat → Int32} (h : SAN M) (hg : TN g 12 15) : SAN (va_up M 2 g) := by
  obtain ⟨a0, a1, a2, a3, a4, a5, a6, a7, a8, a9, a10⟩ := h
  refine ⟨?_, ?_, ?_, ?_, ?_, ?_, ?_, ?_, ?_, ?_, ?_⟩
  · rw [vu_ne (by decide)]; exact a0
  · rw [vu_ne (by decide)]; exact a1
  · rw [vu_eq]; exact hg
  · rw [vu_ne (by decide)]; exact a3
  · rw [vu_ne (by decide)]; exact a4
  · rw [vu_ne (by decide)]; exact a5
  · rw [vu_ne (by decide)]; exact a6
  · rw [vu_ne (by decide)]; exact a7
  · rw [vu_ne (by decide)]; exact a8
  · rw [vu_ne (by decide)]; exact a9
  · rw [vu_ne (by decide)]; exact a10
theorem san_3 {M : SR} {g : Nat → Int32} (h : SAN M) (hg : TN g 48 100) : SAN (va_up M 3 g) := by
  obtain ⟨a0, a1, a2, a3, a4, a5, a6, a7, a8, a9, a10⟩ := h
  refine ⟨?_, ?_, ?_, ?_, ?_, ?_, ?_, ?_, ?_, ?_, ?_⟩
  · rw [vu_ne (by decide)]; exact a0
  · rw [vu_ne (by decide)]; exact a1
  · rw [vu_ne (by decide)]; exact a2
  · rw [vu_eq]; exact hg
  · rw [vu_ne (by decide)]; exact a4
  · rw [vu_ne (by decide)]; exact a5
  · rw [vu_ne (by decide)]; exact a6
  · rw [vu_ne (by decide)]; exact a7
  · rw [vu_ne (by decide)]; exact a8
  · rw [vu_ne (by decide)]; exact a9
  · rw [vu_ne (by decide)]; exact a10
theorem san_4 {M : SR} {g : Nat → Int32} (h : SAN M) (hg : OW g) : SAN (va_up M 4 g) := by
  obtain ⟨a0, a1, a2, a3, a4, a5, a6, a7, a8, a9, a10⟩ := h
  refine ⟨?_, ?_, ?_, ?_, ?_, ?_, ?_, ?_, ?_, ?_, ?_⟩
  · rw [vu_ne (by decide)]; exact a0
  · rw [vu_ne (by decide)]; exact a1
  · rw [vu_ne (by decide)]; exact a2
  · rw [vu_ne (by decide)]; exact a3
  · rw [vu_eq]; exact hg
  · rw [vu_ne (by decide)]; exact a5
  · rw [vu_ne (by decide)]; exact a6
  · rw [vu_ne (by decide)]; exact a7
  · rw [vu_ne (by decide)]; exact a8
  · rw [vu_ne (by decide)]; exact a9
  · rw [vu_ne (by decide)]; exact a10
theorem san_5 {M : SR} {g : Nat → Int32} (h : SAN M) (hg : RET g) : SAN (va_up M 5 g) := by
  obtain ⟨a0, a1, a2, a3, a4, a5, a6, a7, a8, a9, a10⟩ := h
  refine ⟨?_, ?_, ?_, ?_, ?_, ?_, ?_, ?_, ?_, ?_, ?_⟩
  · rw [vu_ne (by decide)]; exact a0
  · rw [vu_ne (by decide)]; exact a1
  · rw [vu_ne (by decide)]; exact a2
  · rw [vu_ne (by decide)]; exact a3
  · rw [vu_ne (by decide)]; exact a4
  · rw [vu_eq]; exact hg
  · rw [vu_ne (by decide)]; exact a6
  · rw [vu_ne (by decide)]; exact a7
  · rw [vu_ne (by decide)]; exact a8
  · rw [vu_ne (by decide)]; exact a9
  · rw [vu_ne (by decide)]; exact a10
theorem san_6 {M : SR} {g : Nat → Int32} (h : SAN M) (hg : TN g 12 9999) : SAN (va_up M 6 g) := by
  obtain ⟨a0, a1, a2, a3, a4, a5, a6, a7, a8, a9, a10⟩ := h
  refine ⟨?_, ?_, ?_, ?_, ?_, ?_, ?_, ?_, ?_, ?_, ?_⟩
  · rw [vu_ne (by decide)]; exact a0
  · rw [vu_ne (by decide)]; exact a1
  · rw [vu_ne (by decide)]; exact a2
  · rw [vu_ne (by decide)]; exact a3
  · rw [vu_ne (by decide)]; exact a4
  · rw [vu_ne (by decide)]; exact a5
  · rw [vu_eq]; exact hg
  · rw [vu_ne (by decide)]; exact a7
  · rw [vu_ne (by decide)]; exact a8
  · rw [vu_ne (by decide)]; exact a9
  · rw [vu_ne (by decide)]; exact a10
theorem san_7 {M : SR} {g : Nat → Int32} (h : SAN M) (hg : TN g 4 9999) : SAN (va_up M 7 g) := by
  obtain ⟨a0, a1, a2, a3, a4, a5, a6, a7, a8, a9, a10⟩ := h
  refine ⟨?_, ?_, ?_, ?_, ?_, ?_, ?_, ?_, ?_, ?_, ?_⟩
  · rw [vu_ne (by decide)]; exact a0
  · rw [vu_ne (by decide)]; exact a1
  · rw [vu_ne (by decide)]; exact a2
  · rw [vu_ne (by decide)]; exact a3
  · rw [vu_ne (by decide)]; exact a4
  · rw [vu_ne (by decide)]; exact a5
  · rw [vu_ne (by decide)]; exact a6
  · rw [vu_eq]; exact hg
  · rw [vu_ne (by decide)]; exact a8
  · rw [vu_ne (by decide)]; exact a9
  · rw [vu_ne (by decide)]; exact a10
theorem san_8 {M : SR} {g : Nat → Int32} (h : SAN M) (hg : SC g) : SAN (va_up M 8 g) := by
  obtain ⟨a0, a1, a2, a3, a4, a5, a6, a7, a8, a9, a10⟩ := h
  refine ⟨?_, ?_, ?_, ?_, ?_, ?_, ?_, ?_, ?_, ?_, ?_⟩
  · rw [vu_ne (by decide)]; exact a0
  · rw [vu_ne (by decide)]; exact a1
  · rw [vu_ne (by decide)]; exact a2
  · rw [vu_ne (by decide)]; exact a3
  · rw [vu_ne (by decide)]; exact a4
  · rw [vu_ne (by decide)]; exact a5
  · rw [vu_ne (by decide)]; exact a6
  · rw [vu_ne (by decide)]; exact a7
  · rw [vu_eq]; exact hg
  · rw [vu_ne (by decide)]; exact a9
  · rw [vu_ne (by decide)]; exact a10
theorem san_9 {M : SR} {g : Nat → Int32} (h : SAN M) (hg : TN g 16 100) : SAN (va_up M 9 g) := by
  obtain ⟨a0, a1, a2, a3, a4, a5, a6, a7, a8, a9, a10⟩ := h
  refine ⟨?_, ?_, ?_, ?_, ?_, ?_, ?_, ?_, ?_, ?_, ?_⟩
  · rw [vu_ne (by decide)]; exact a0
  · rw [vu_ne (by decide)]; exact a1
  · rw [vu_ne (by decide)]; exact a2
  · rw [vu_ne (by decide)]; exact a3
  · rw [vu_ne (by decide)]; exact a4
  · rw [vu_ne (by decide)]; exact a5
  · rw [vu_ne (by decide)]; exact a6
  · rw [vu_ne (by decide)]; exact a7
  · rw [vu_ne (by decide)]; exact a8
  · rw [vu_eq]; exact hg
  · rw [vu_ne (by decide)]; exact a10
theorem san_10 {M : SR} {g : Nat → Int32} (h : SAN M) (hg : CT g) : SAN (va_up M 10 g) := by
  obtain ⟨a0, a1, a2, a3, a4, a5, a6, a7, a8, a9, a10⟩ := h
  refine ⟨?_, ?_, ?_, ?_, ?_, ?_, ?_, ?_, ?_, ?_, ?_⟩
  · rw [vu_ne (by decide)]; exact a0
  · rw [vu_ne (by decide)]; exact a1
  · rw [vu_ne (by decide)]; exact a2
  · rw [vu_ne (by decide)]; exact a3
  · rw [vu_ne (by decide)]; exact a4
  · rw [vu_ne (by decide)]; exact a5
  · rw [vu_ne (by decide)]; exact a6
  · rw [vu_ne (by decide)]; exact a7
  · rw [vu_ne (by decide)]; exact a8
  · rw [vu_ne (by decide)]; exact a9
  · rw [vu_eq]; exact hg
theorem san_o {M : SR} {g : Nat → Int32} (h : SAN M) : SAN (va_up M 11 g) := by
  obtain ⟨a0, a1, a2, a3, a4, a5, a6, a7, a8, a9, a10⟩ := h
  refine ⟨?_, ?_, ?_, ?_, ?_, ?_, ?_, ?_, ?_, ?_, ?_⟩
  · rw [vu_ne (by decide)]; exact a0
  · rw [vu_ne (by decide)]; exact a1
  · rw [vu_ne (by decide)]; exact a2
  · rw [vu_ne (by decide)]; exact a3
  · rw [vu_ne (by decide)]; exact a4
  · rw [vu_ne (by decide)]; exact a5
  · rw [vu_ne (by decide)]; exact a6
  · rw [vu_ne (by decide)]; exact a7
  · rw [vu_ne (by decide)]; exact a8
  · rw [vu_ne (by decide)]; exact a9
  · rw [vu_ne (by decide)]; exact a10
theorem sane_v {M : SR} {g : Nat → Int32} {r : Nat} (h : SANE M) (hr : r ≠ 11) (hs : SAN (va_up M r g)) : SANE (va_up M r g) := ⟨hs, by rw [vu_ne (Ne.symm hr)]; exact h.2⟩
theorem ct_o {f : Nat → Int32} {k : Nat} {v : Int32} (h : CT f) (hk : k < 4 ∨ k = 6) : CT (upd f k v) := by
  obtain ⟨h4, h5, h7⟩ := h
  refine ⟨?_, ?_, ?_⟩
  · rw [up_ne (by omega)]; exact h4
  · rw [up_ne (by omega)]; exact h5
  · rw [up_ne (by omega)]; exact h7
theorem ct_5 {f : Nat → Int32} {v : Int32} (h : CT f) (hv : IN v 119988) : CT (upd f 5 v) := by
  obtain ⟨h4, h5, h7⟩ := h
  exact ⟨by rw [up_ne (by decide)]; exact h4, by rw [up_eq]; exact hv, by rw [up_ne (by decide)]; exact h7⟩
theorem ct_7 {f : Nat → Int32} {v : Int32} (h : CT f) (hv : IN v 63) : CT (upd f 7 v) := by
  obtain ⟨h4, h5, h7⟩ := h
  exact ⟨by rw [up_ne (by decide)]; exact h4, by rw [up_ne (by decide)]; exact h5, by rw [up_eq]; exact hv⟩
theorem fd_3 {f : Nat → Int32} {v : Int32} (h : FD f) : FD (upd f 3 v) := by
  obtain ⟨h0, st, tk, h1, h2, h3, h4⟩ := h
  exact ⟨by rw [up_ne (by decide)]; exact h0, st, tk, by rw [up_ne (by decide)]; exact h1, by rw [up_ne (by decide)]; exact h2, h3, h4⟩
theorem fd_end {f : Nat → Int32} (h : IN (f 0) 5) : FD (upd (upd (upd f 1 0) 2 0) 3 0) := by
  refine fd_3 ⟨?_, 0, 0, ?_, ?_, by omega, Or.inr ⟨rfl, rfl⟩⟩
  · rw [up_ne (by decide), up_ne (by decide)]; exact h
  · rw [up_ne (by decide), up_eq, nI_0]
  · rw [up_eq, nI_0]
/-! the fade's own -/
theorem sane_fd {M F : SR} (h : SAN M) (h9 : TN (F 9) 16 100) (h11 : FD (F 11)) : SANE (mFd M F) := by
  unfold mFd
  exact ⟨san_o (san_9 h h9), by rw [vu_eq]; exact h11⟩
theorem touch_9 (M : SR) (p : Int32) : (f_X0_touch M p) 9 = M 9 := by
  rw [f_X0_touch]
  by_cases c : f_X0_isGoingOn M = 0
  · rw [if_pos c]
  · rw [if_neg c, sLet_eq, sU_row (by decide)]
theorem touch_11 {M : SR} (h : FD (M 11)) (p : Int32) : FD ((f_X0_touch M p) 11) := by
  rw [f_X0_touch]
  by_cases c : f_X0_isGoingOn M = 0
  · rw [if_pos c]; exact h
  · rw [if_neg c, sLet_eq]
    unfold sU
    rw [vu_eq]
    exact fd_3 h
theorem sane_touch {M : SR} (h : SANE M) (p : Int32) : SANE (mFd M (f_X0_touch M p)) :=
  sane_fd h.1 (by rw [touch_9]; exact s_9 h.1) (touch_11 h.2 p)
theorem end_9 (M : SR) : (f_X0_end M) 9 = M 9 := by
  rw [f_X0_end, sLet_eq, sLet_eq, sLet_eq, sU_row (by decide), sU_row (by decide), sU_row (by decide)]
theorem end_11 (M : SR) : (f_X0_end M) 11 = upd (upd (upd (M 11) 1 0) 2 0) 3 0 := by
  rw [f_X0_end, sLet_eq, sLet_eq, sLet_eq]
  unfold sU
  rw [vu_eq, vu_eq, vu_eq]
theorem sane_end {M : SR} (h : SAN M) (h0 : IN (M 11 0) 5) : SANE (mFd M (f_X0_end M)) :=
  sane_fd h (by rw [end_9]; exact s_9 h) (by rw [end_11]; exact fd_end h0)
theorem begin_9 (M : SR) (g : Nat → Int32) (a b : Int32) : (f_X0_begin M g a b) 9 = g := by
  rw [f_X0_begin, sLet_eq, sLet_eq, sLet_eq, sLet_eq, sLet_eq]
  unfold sR
  rw [vu_eq]
theorem begin_11 (M : SR) (g : Nat → Int32) (a b : Int32) : (f_X0_begin M g a b) 11 = upd (upd (upd (upd (M 11) 0 a) 1 0) 2 b) 3 0 := by
  rw [f_X0_begin, sLet_eq, sLet_eq, sLet_eq, sLet_eq, sLet_eq]
  unfold sR
  rw [vu_ne (by decide)]
  unfold sU
  rw [vu_eq, vu_eq, vu_eq, vu_eq]
theorem sane_begin {M : SR} (h : SAN M) {k t : Nat} (hk : k < 6) (h0 : 0 < t) (ht : t ≤ 100) : SANE (mFd M (f_X0_begin M (M 1) (nI k) (nI t))) := by
  refine sane_fd h (by rw [begin_9]; exact s_1 h) ?_
  rw [begin_11]
  refine fd_3 ⟨?_, 0, t, ?_, ?_, ht, Or.inl h0⟩
  · rw [up_ne (by decide), up_ne (by decide), up_eq]; exact in_n (by omega)
  · rw [up_ne (by decide), up_eq, nI_0]
  · rw [up_eq]
/-! where a fade stands -/
theorem neg_div {w t : Nat} (hw : w < 2 ^ 31) (h0 : 0 < t) (ht : t < 2 ^ 31) : (-nI w) / nI t = -nI (w / t) := by
  have hd : w / t ≤ w := Nat.div_le_self w t
  apply Int32.toInt_inj.mp
  rw [Int32.toInt_div, sb_negT hw, sb_negT (by omega), nI_toInt ht, Int.neg_tdiv, Int.tdiv_eq_ediv_of_nonneg (by omega), ← Int.natCast_ediv]
  generalize w / t = z at hd ⊢
  exact Int.bmod_eq_of_le (by omega) (by omega)
theorem part_le {d st tk : Nat} (h : st ≤ tk) : d * st / tk ≤ d := by
  by_cases c : tk = 0
  · subst c; rw [Nat.div_zero]; omega
  · refine Nat.div_le_of_le_mul ?_
    rw [Nat.mul_comm]
    exact Nat.mul_le_mul h (Nat.le_refl d)
theorem pos_in {a b st tk : Nat} (ha : a ≤ 100) (hb : b ≤ 100) (hs : st ≤ tk) (ht : tk ≤ 100) (h0 : 0 < tk) : IN (nI a + ((nI b - nI a) * nI st) / nI tk) 100 := by
  have hm : ∀ d : Nat, d ≤ 100 → d * st ≤ 100 * 100 := fun d hd => Nat.mul_le_mul hd (by omega)
  by_cases c : a ≤ b
  · have hl := part_le (d := b - a) hs
    have h1 := hm (b - a) (by omega)
    rw [nI_sub c, nI_mul, pk_div (by omega) h0 (by omega), nI_add]
    exact in_n (by omega)
  · have hl := part_le (d := a - b) hs
    have h1 := hm (a - b) (by omega)
    have e : nI b - nI a = -nI (a - b) := by rw [← nI_sub (by omega), Int32.neg_sub]
    rw [e, Int32.neg_mul, nI_mul, neg_div (by omega) h0 (by omega), ← Int32.sub_eq_add_neg, nI_sub (by omega)]
    exact in_n (Nat.le_trans (Nat.sub_le _ _) ha)
