/-! p29, 16: isRight, its loops -/
theorem r_186_all {kb4 : Int32 → Int32 → GR → (Int32 × GR)} {x1 : Int32} {c l : Nat} {G : GR} (h : DESK G) (hc : c < 12) (hl : f_X4_levelOf (G 0) (nI c) = nI l) (hl2 : l ≤ 100) : ∃ G' : GR, SIM G G' ∧ f_L_isRight_p186 kb4 5 x1 (nI c) (nI l) 0 G = kb4 x1 (nI (c + 1)) G' := by
  obtain ⟨G1, s1, e1⟩ := r_186 (kb4 := kb4) (n := 4) (x1 := x1) (f := 0) h hc (by omega) hl hl2
  rw [nI_0] at e1
  have t1 := s1
  obtain ⟨G2, s2, e2⟩ := r_186 (kb4 := kb4) (n := 3) (x1 := x1) (f := 0 + 1) (sim_desk h t1) hc (by omega) (by rw [sim_0 t1]; exact hl) hl2
  have t2 := sim_tr t1 s2
  obtain ⟨G3, s3, e3⟩ := r_186 (kb4 := kb4) (n := 2) (x1 := x1) (f := 0 + 1 + 1) (sim_desk h t2) hc (by omega) (by rw [sim_0 t2]; exact hl) hl2
  have t3 := sim_tr t2 s3
  obtain ⟨G4, s4, e4⟩ := r_186 (kb4 := kb4) (n := 1) (x1 := x1) (f := 0 + 1 + 1 + 1) (sim_desk h t3) hc (by omega) (by rw [sim_0 t3]; exact hl) hl2
  refine ⟨G4, sim_tr t3 s4, ?_⟩
  rw [e1, e2, e3, e4, f_L_isRight_p186, if_pos (show (4 : Int32) ≤ nI (0 + 1 + 1 + 1 + 1) by decide), nI_1]
theorem or_0 (x : Int32) : x ||| 0 = x := Int32.or_zero
/-- the channels -/
theorem r_4 : ∀ (n c m : Nat) (G : GR), n + c = 13 → c ≤ 12 → DESK G → MK (fun k => ¬ f_X4_levelOf (G 0) (nI k) ≤ 0) c m → ∃ (m' : Nat) (G' : GR), SIM G G' ∧ MK (fun k => ¬ f_X4_levelOf (G 0) (nI k) ≤ 0) 12 m' ∧ f_L_isRight_p4 n (nI m) (nI c) G = f_L_isRight_p481 5 (nI m') ((f_X5_loops G').1) 0 ((f_X5_loops G').2) := by
  intro n
  induction n with
  | zero => intro c m G hn hc; omega
  | succ n ih =>
    intro c m G hn hc h hm
    have hp := pow12 hc hm.1
    rw [f_L_isRight_p4]
    by_cases q12 : (12 : Int32) ≤ nI c
    · have e : c = 12 := by
        have := (nI_leI (a := 12) (b := c) (by omega) (by omega)).mp q12
        omega
      subst e
      rw [if_pos q12, sLet_eq]
      exact ⟨m, G, sim_rf h, hm, rfl⟩
    · have q : c < 12 := lp_ge (x := nI c) rfl (show (12 : Int32) = nI 12 from rfl) (by omega) (by omega) q12
      rw [if_neg q12, v_ch5 q]
      have go : ∀ (s0 : Int32) (m2 : Nat), nI m ||| s0 = nI m2 → MK (fun k => ¬ f_X4_levelOf (G 0) (nI k) ≤ 0) (c + 1) m2 → ∃ (m' : Nat) (G' : GR), SIM G G' ∧ MK (fun k => ¬ f_X4_levelOf (G 0) (nI k) ≤ 0) 12 m' ∧ f_L_isRight_p36 (f_L_isRight_p4 n) (nI c) (f_X4_levelOf (G 0) (nI c)) (f_X5_why G (nI c)) s0 (nI m) G = f_L_isRight_p481 5 (nI m') ((f_X5_loops G').1) 0 ((f_X5_loops G').2) := fun s0 m2 e2 hm2 => by
        obtain ⟨l, l1, l2, l3⟩ := r_ch (kb := f_L_isRight_p4 n) h q s0 (nI m)
        obtain ⟨G1, s1, w1⟩ := r_186_all (kb4 := f_L_isRight_p4 n) (x1 := nI m2) h q l2 l1
        have e0 := sim_0 s1
        obtain ⟨m', G', g1, g2, g3⟩ := ih (c + 1) m2 G1 (by omega) (by omega) (sim_desk h s1) (by rw [e0]; exact hm2)
        rw [e0] at g2
        exact ⟨m', G', sim_tr s1 g1, g2, by rw [l3, e2, w1, g3]⟩
      by_cases d : f_X4_levelOf (G 0) (nI c) ≤ 0
      · rw [if_pos d]
        exact go 0 m (or_0 _) (mk_no hm (fun z => z d))
      · rw [if_neg d]
        exact go _ _ (or_new q hm.1) (mk_yes hm d)
theorem mk_uniq {P : Nat → Prop} : ∀ (n a b : Nat), MK P n a → MK P n b → a = b := by
  have key : ∀ (n a b : Nat), a < 2 ^ n → b < 2 ^ n → (∀ g : Nat, g < n → (bt a g ↔ bt b g)) → a = b := by
    intro n
    induction n with
    | zero => intro a b ha hb _; rw [Nat.pow_zero] at ha hb; omega
    | succ n ih =>
      intro a b ha hb hg
      have hp : 0 < 2 ^ n := Nat.two_pow_pos n
      rw [Nat.pow_succ] at ha hb
      have h0 := hg n (by omega)
      unfold bt at h0
      have da : a / 2 ^ n < 2 := Nat.div_lt_of_lt_mul ha
      have db : b / 2 ^ n < 2 := Nat.div_lt_of_lt_mul hb
      have hz : ∀ x y : Nat, x < 2 → y < 2 → (x % 2 = 1 ↔ y % 2 = 1) → x = y := fun x y h1 h2 h3 => by omega
      have eq1 : a / 2 ^ n = b / 2 ^ n := hz _ _ da db h0
      have low : ∀ x g : Nat, g < n → (bt (x % 2 ^ n) g ↔ bt x g) := fun x g hgn => by
        obtain ⟨d, hd⟩ : ∃ d, n = g + 1 + d := ⟨n - g - 1, by omega⟩
        have e : 2 ^ n = 2 ^ g * (2 * 2 ^ d) := by rw [hd, Nat.pow_add, Nat.pow_succ, Nat.mul_assoc]
        have e2 : x % 2 ^ n / 2 ^ g % 2 = x / 2 ^ g % 2 := by rw [e, Nat.mod_mul_right_div_self, Nat.mod_mul_right_mod]
        exact ⟨fun z => e2.symm.trans z, fun z => e2.trans z⟩
      have := ih (a % 2 ^ n) (b % 2 ^ n) (Nat.mod_lt _ hp) (Nat.mod_lt _ hp) (fun g hgn => ((low a g hgn).trans (hg g (by omega))).trans (low b g hgn).symm)
      rw [← Nat.div_add_mod a (2 ^ n), ← Nat.div_add_mod b (2 ^ n), eq1, this]
  intro n a b ha hb
  exact key n a b ha.1 hb.1 (fun g hg => (ha.2 g hg).trans (hb.2 g hg).symm)
/-- the feeds -/
theorem r_481 {m lm : Nat} {n : Nat} {G : GR} (h : DESK G) {f : Nat} (hf : f < 4) (hlm : lm < 4096) (hl : bt lm f ↔ ∃ j : Nat, j < 12 ∧ (G 0) 5 f = nI j ∧ PT (G 0) j f) : ∃ G' : GR, SIM G G' ∧ f_L_isRight_p481 (n + 1) (nI m) (nI lm) (nI f) G = f_L_isRight_p481 n (nI m) (nI lm) (nI (f + 1)) G' := by
  have hs := (h.1 0 (by omega)).1
  have tl : ∀ (H : GR) (a : Int32), SIM G H → ∃ G' : GR, SIM G G' ∧ f_L_isRight_p538 (f_L_isRight_p481 n) (nI m) (nI lm) (nI f) a a H = f_L_isRight_p481 n (nI m) (nI lm) (nI (f + 1)) G' := fun H a sH => by
    have dH := sim_desk h sH
    have eH := sim_0 sH
    obtain ⟨y, y1, y2⟩ := s_7 hs f hf
    rw [f_L_isRight_p538, if_pos rfl, v_feed2 hf, eH, y2, if_neg (nI_pos (by omega)), if_neg (show ¬ (9999 : Int32) < nI y from nI_nlt (a := 9999) y1 (by omega)), sLet_eq]
    obtain ⟨mm, m1, m2, m3, -, m5⟩ := hear_m dH hf
    rw [eH] at m5
    rw [m2]
    generalize (f_X5_hearers H (nI f)).2 = H1 at m3 ⊢
    have s1 := sim_tr sH m3
    have d1 := sim_desk h s1
    have e1 := sim_0 s1
    obtain ⟨c1, c2⟩ := cut_1 d1 hf
    rw [e1] at c1
    have s2 := sim_tr s1 c2
    have d2 := sim_desk h s2
    have e2 := sim_0 s2
    obtain ⟨o1, o2⟩ := out_1 d2 (t := 0) hf (by omega)
    rw [nI_0, go_0, e2] at o1
    rw [nI_0] at o2
    have s3 := sim_tr s2 o2
    have e3 := sim_0 s3
    have t590 : ∀ b : Int32, f_L_isRight_p590 (f_L_isRight_p481 n) (nI m) (nI lm) (nI f) b b (f_X5_cut H1 (nI f)).2 = f_L_isRight_p481 n (nI m) (nI lm) (nI (f + 1)) (f_X5_outputIn (f_X5_cut H1 (nI f)).2 (nI f) 0).2 := fun b => by
      rw [f_L_isRight_p590, if_pos rfl, sLet_eq, v_feed2 hf, e3, if_pos o1, nI_1]
    have zm : nI mm = 0 ↔ QUIET (G 0) f := by
      rw [← m5, show (0 : Int32) = nI 0 from nI_0.symm]
      exact nI_eq (by omega) (by omega)
    refine ⟨_, s3, ?_⟩
    by_cases q : nI mm = 0
    · have c3 : (f_X5_cut H1 (nI f)).1 = -2 := by
        rcases c1 with ⟨z, -⟩ | ⟨z, -⟩
        · exact z
        · exact absurd (zm.mp q) z
      rw [if_pos q, f_L_isRight_p575, sLet_eq, if_pos c3, t590]
    · have c3 : ¬ (f_X5_cut H1 (nI f)).1 = -2 := by
        rcases c1 with ⟨-, z⟩ | ⟨-, z⟩
        · exact absurd (zm.mpr z) q
        · rcases z with z | ⟨s, c, z1, z2, z3, -, -⟩
          · rw [z]; decide
          · rw [z3]; exact fun w => nI_pos (n := 100 * s + c) (by omega) (by rw [w]; decide)
      rw [if_neg q, f_L_isRight_p575, sLet_eq, if_neg c3, t590]
  have t508 : ∀ s0 : Int32, (s0 = 1 ∧ bt lm f) ∨ (s0 = 0 ∧ ¬ bt lm f) → ∃ G' : GR, SIM G G' ∧ f_L_isRight_p508 (f_L_isRight_p481 n) (nI m) (nI lm) (nI f) (f_X5_feed G (nI f) 1) s0 G = f_L_isRight_p481 n (nI m) (nI lm) (nI (f + 1)) G' := fun s0 hs0 => by
    rw [f_L_isRight_p508, v_feed1 hf]
    rcases (s_5 hs).1 f hf with e | ⟨j, j1, j2⟩
    · have z0 : s0 = 0 := by
        rcases hs0 with ⟨-, z⟩ | ⟨z, -⟩
        · obtain ⟨j, j1, j2, -⟩ := hl.mp z
          exact absurd (show nI j < 0 by rw [← j2, e]; decide) (nI_pos (by omega))
        · exact z
      rw [e, if_neg (show ¬ (0 : Int32) ≤ -1 by decide), if_pos (show (-99 : Int32) < 0 by decide), f_L_isRight_p537, z0]
      exact tl G 0 (sim_rf h)
    · rw [j2, if_pos (nI_pos' (by omega)), if_neg (nI_pos (by omega)), if_pos (nI_pos' (by omega)), f_L_isRight_p525, sLet_eq]
      obtain ⟨x, x2, x3⟩ := ds_ex hs (c := j) (f := f) (by omega) hf
      obtain ⟨T, p1, p2, p3⟩ := path_1 h (c := j) (f := f) (by omega) hf (i := -1) (by decide)
      obtain ⟨r1, -⟩ := path_spec hs (by omega) hf p1 x2 x3
      rw [p2.trans r1]
      have hpt := ds_pt x3
      have hb : bt lm f ↔ ¬ x = 0 := by
        rw [hl, hpt]
        constructor
        · rintro ⟨j', z1, z2, z3⟩
          have : j' = j := (nI_eq (by omega) (by omega)).mp (z2.symm.trans j2)
          subst this; exact z3
        · intro z; exact ⟨j, by omega, j2, z⟩
      by_cases q : x = 0
      · have z0 : s0 = 0 := by
          rcases hs0 with ⟨-, z⟩ | ⟨z, -⟩
          · exact absurd q (hb.mp z)
          · exact z
        rw [if_pos q, if_pos (show (-99 : Int32) ≤ 0 by decide), f_L_isRight_p537, z0]
        exact tl _ 0 p3
      · have z1 : s0 = 1 := by
          rcases hs0 with ⟨z, -⟩ | ⟨-, z⟩
          · exact z
          · exact absurd (hb.mpr q) z
        rw [if_neg q, if_neg (nI_nle (show 0 < x by omega) (by omega)), z1]
        exact tl _ 1 p3
  rw [f_L_isRight_p481, if_neg (show ¬ (4 : Int32) ≤ nI f from nI_ge (b := 4) hf (by omega))]
  have b := bt12 hlm (show f < 12 by omega)
  by_cases q : ((nI lm >>> (nI f &&& 31)) &&& 1) = 1
  · rw [if_pos q]; exact t508 1 (Or.inl ⟨rfl, b.mp q⟩)
  · rw [if_neg q]; exact t508 0 (Or.inr ⟨rfl, fun z => q (b.mpr z)⟩)
/-- all is right -/
theorem all_right {G : GR} (h : DESK G) : (f_L_isRight G).1 = 1 ∧ SIM G (f_L_isRight G).2 := by
  rw [f_L_isRight]
  obtain ⟨m, G0', s0, hm, e0⟩ := r_4 13 0 0 G (by omega) (by omega) h mk_0
  rw [nI_0] at e0
  rw [e0]
  have d0 := sim_desk h s0
  have z0 := sim_0 s0
  obtain ⟨T, t1, t2, t3⟩ := loops_1 d0
  obtain ⟨lm, l1, l2⟩ := back_spec (d0.1 0 (by omega)).1 t1
  rw [t2, l1]
  have s1 := sim_tr s0 t3
  have l3 : lm < 4096 := pow12 (by omega) l2.1
  have l4 : ∀ (H : GR), SIM G H → ∀ f : Nat, f < 4 → (bt lm f ↔ ∃ j : Nat, j < 12 ∧ (H 0) 5 f = nI j ∧ PT (H 0) j f) := fun H sH f hf => by
    rw [sim_0 sH, ← z0]; exact l2.2 f hf
  generalize (f_X5_loops G0').2 = H0 at t3 s1 ⊢
  obtain ⟨H1, a1, b1⟩ := r_481 (m := m) (lm := lm) (n := 4) (sim_desk h s1) (f := 0) (by omega) l3 (l4 H0 s1 0 (by omega))
  have s2 := sim_tr s1 a1
  obtain ⟨H2, a2, b2⟩ := r_481 (m := m) (lm := lm) (n := 3) (sim_desk h s2) (f := 0 + 1) (by omega) l3 (l4 H1 s2 _ (by omega))
  have s3 := sim_tr s2 a2
  obtain ⟨H3, a3, b3⟩ := r_481 (m := m) (lm := lm) (n := 2) (sim_desk h s3) (f := 0 + 1 + 1) (by omega) l3 (l4 H2 s3 _ (by omega))
  have s4 := sim_tr s3 a3
  obtain ⟨H4, a4, b4'⟩ := r_481 (m := m) (lm := lm) (n := 1) (sim_desk h s4) (f := 0 + 1 + 1 + 1) (by omega) l3 (l4 H3 s4 _ (by omega))
  have s5 := sim_tr s4 a4
  rw [nI_0] at b1
  rw [b1, b2, b3, b4', f_L_isRight_p481, if_pos (show (4 : Int32) ≤ nI (0 + 1 + 1 + 1 + 1) by decide)]
  have d5 := sim_desk h s5
  have e5 := sim_0 s5
  obtain ⟨m', u1, u2⟩ := aud_spec (G 0)
  have em := mk_uniq 12 m m' hm u2
  have hs := h.1 0 (by omega)
  obtain ⟨q4, q41, q42⟩ := (s_10 hs.1).1
  rw [if_pos (show nI m = f_X5_count H4 8 by rw [v_c8, e5, u1, em]), if_neg (show ¬ f_X5_count H4 1 < 0 by rw [v_c1, e5, q42]; exact nI_pos (by omega))]
  have h5 : f_X5_count H4 5 = (if (f_X0_isGoingOn (G 0)) = 0 then (-99) else (G 0) 11 2) := by rw [v_c5, e5]
  have h4 : f_X5_count H4 4 = (if (f_X0_isGoingOn (G 0)) = 0 then (-99) else (G 0) 11 1) := by rw [v_c4, e5]
  obtain ⟨-, st, tk, f1, f2, f3, f4⟩ := hs.2
  by_cases g : f_X0_isGoingOn (G 0) = 0
  · rw [if_pos g] at h4 h5
    rw [h4, if_neg (show ¬ (0 : Int32) ≤ -99 by decide), f_L_isRight_p649, h5, if_neg (show ¬ (0 : Int32) ≤ -99 by decide), f_L_isRight_p662, if_pos rfl, if_pos (show (-99 : Int32) < 0 by decide)]
    exact ⟨rfl, s5⟩
  · rw [if_neg g, f1] at h4
    rw [if_neg g, f2] at h5
    have hlt : st < tk := by
      rcases f4 with z | ⟨z1, z2⟩
      · exact z
      · exact absurd (by rw [f_X0_isGoingOn, f2, z2]; exact if_pos (by decide)) g
    rw [h4, if_pos (nI_pos' (show st < 2 ^ 31 by omega)), f_L_isRight_p649, h5, if_pos (nI_pos' (show tk < 2 ^ 31 by omega)), f_L_isRight_p662, if_pos rfl, if_neg (nI_pos (by omega)), h5, if_neg (show ¬ nI tk ≤ nI st from nI_ge hlt (by omega))]
    exact ⟨rfl, s5⟩
