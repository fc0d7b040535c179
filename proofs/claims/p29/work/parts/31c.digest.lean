abbrev rm_L_digest : Room := { frames := 6, cells := 0, slots := 0, locals := 132 }
def f_L_digest_p177 (G : GR) (kb168 : Int64 → Int32 → Int64) : Nat → Int64 → Int32 → Int32 → Int64
  | 0, _, _, _ => 0
  | n_177 + 1, x1_177, x3_177, x4_177 => (if 17 ≤ x4_177 then kb168 x1_177 (x3_177 + 1) else (f_L_digest_p177 G kb168 n_177) ((31 * x1_177) + ((f_X5_scene G x3_177 x4_177).toInt64)) x3_177 (x4_177 + 1))
def f_L_digest_p168 (G : GR)  : Nat → Int64 → Int32 → Int64
  | 0, _, _ => 0
  | n_168 + 1, x1_168, x3_168 => (if 6 ≤ x3_168 then x1_168 else f_L_digest_p177 G (f_L_digest_p168 G n_168) 18 x1_168 x3_168 0)
def f_L_digest_p131 (G : GR) (kb78 : Int64 → Int32 → Int64) : Nat → Int64 → Int32 → Int32 → Int64
  | 0, _, _, _ => 0
  | n_131 + 1, x1_131, x3_131, x4_131 => (if 12 ≤ x4_131 then kb78 x1_131 (x3_131 + 1) else (f_L_digest_p131 G kb78 n_131) ((31 * x1_131) + ((f_X5_send G x3_131 x4_131 0).toInt64)) x3_131 (x4_131 + 1))
def f_L_digest_p86 (G : GR) (kb78 : Int64 → Int32 → Int64) : Nat → Int64 → Int32 → Int32 → Int64
  | 0, _, _, _ => 0
  | n_86 + 1, x1_86, x3_86, x4_86 => (if 4 ≤ x4_86 then f_L_digest_p131 G kb78 13 x1_86 x3_86 0 else (f_L_digest_p86 G kb78 n_86) ((31 * ((31 * x1_86) + ((f_X5_group G x3_86 x4_86).toInt64))) + ((f_X5_feed G x3_86 x4_86).toInt64)) x3_86 (x4_86 + 1))
def f_L_digest_p78 (G : GR)  : Nat → Int64 → Int32 → Int64
  | 0, _, _ => 0
  | n_78 + 1, x1_78, x3_78 => (if 4 ≤ x3_78 then f_L_digest_p168 G 7 x1_78 0 else f_L_digest_p86 G (f_L_digest_p78 G n_78) 5 x1_78 x3_78 0)
def f_L_digest_p42 (G : GR) (kb33 : Int64 → Int32 → Int64) : Nat → Int64 → Int32 → Int32 → Int64
  | 0, _, _, _ => 0
  | n_42 + 1, x1_42, x3_42, x4_42 => (if 9 ≤ x4_42 then kb33 x1_42 (x3_42 + 1) else (f_L_digest_p42 G kb33 n_42) ((31 * x1_42) + ((f_X5_channel G x3_42 x4_42).toInt64)) x3_42 (x4_42 + 1))
def f_L_digest_p33 (G : GR)  : Nat → Int64 → Int32 → Int64
  | 0, _, _ => 0
  | n_33 + 1, x1_33, x3_33 => (if 12 ≤ x3_33 then f_L_digest_p78 G 5 x1_33 0 else f_L_digest_p42 G (f_L_digest_p33 G n_33) 10 x1_33 x3_33 0)
def f_L_digest_p6 (G : GR)  : Nat → Int64 → Int32 → Int64
  | 0, _, _ => 0
  | n_6 + 1, x1_6, x3_6 => (if 9 ≤ x3_6 then f_L_digest_p33 G 13 x1_6 0 else (f_L_digest_p6 G n_6) ((31 * x1_6) + ((f_X5_count G x3_6).toInt64)) (x3_6 + 1))
def f_L_digest (G : GR)  : Int64 := f_L_digest_p6 G 10 7 0
set_option maxHeartbeats 4000000 in
set_option maxRecDepth 100000 in
theorem c_L_digest (l : Launch) (dC : Nat → ClassId) (dI : Nat → Nat → Nat) (cI cC cS : ClassId) (a : Nat → Nat) (G : GR) (sz : Nat)  (hG : WFG G) : Met l yL_digest wsL_digest rm_L_digest (PcS (dC, dI) (tyL cI cC cS) (cDk a cI cC cS G) sz [.ref (a 0)] (va_A [] sz)) (va_Ql (fun (r : Int64) (_ : Unit) => r = f_L_digest G) (fun _ _ => True) (va_A [] sz)) 0 0 (va_A [] sz) := by
  refine Met.ofW (cc := cL_digest) (maxL := 5) (ret := (some .long)) (by decide) rfl ?_
  intro p e s m args below meth c s₁ B hml hv
  obtain ⟨rfl, hsz, hP, hK, hD0, hN, hT⟩ := hv
  have hx := B.exec
  have hb := B.bytes
  have hr := B.returns
  have hts := atoms_spec (ws := wsL_digest) B.pre
  have hown : s.vm.findClass RL = some m.cls := findClass_of_methodNamed B.named
  have hlocks := B.notSynchronized
  subst hsz
  obtain ⟨⟨tc, hZc, hTc⟩, ⟨tg, hZg, hTg⟩, ⟨ks, kv, hSk, hSr⟩⟩ := id hT
  have hA : ∀ q : Nat, s.heap.size ≤ q → (va_A [] s.heap.size) q := fun q h => Or.inr h
  have hS : va_S (va_A [] s.heap.size) s.heap s.heap [] := va_S.rf
  have hl := lv_entry [.ref (a 0)] (n := 5) (Nat.le_of_ble_eq_true rfl)
  rw [lg_entry_eq]
  generalize (lg_sl [.ref (a 0)] ++ List.replicate (5 - (lg_sl [.ref (a 0)]).length) Slot.unset).toArray = ls at hl ⊢
  have hl : lv_has ls 5 [(0, .ref (a 0))] := hl
  obtain ⟨R0, eR⟩ : ∃ z, z = f_L_digest G := ⟨_, rfl⟩
  have hR := eR
  rw [f_L_digest] at hR
  refine lv_ldc2 (v := 7) hx hb hown (hts (.constantLong RL 8 (7)) (List.mem_of_getElem? (i := 1) rfl)) dL_digest_0 ?_
  refine lv_lstore_n (lv' := [(1, .long 7), (0, .ref (a 0))]) hx hb dL_digest_3 rfl hl (by decide) rfl (fun ls hl => ?_)
  refine lv_iconst (v := 0) hx hb dL_digest_4 (by decide) ?_
  refine lv_istore_n (lv' := [(3, .int 0), (1, .long 7), (0, .ref (a 0))]) hx hb dL_digest_5 rfl hl (by decide) rfl (fun ls hl => ?_)
  have hL_6 : ∀ n_6 : Nat, ∀ (j_6 : Nat), ∀ (x1_6 : Int64) (x3_6 : Int32) , x3_6 = nI j_6 → j_6 ≤ 9 → 9 < j_6 + n_6 → R0 = f_L_digest_p6 G n_6 x1_6 x3_6 → ∀ (H : Heap) (locs : List Loc) (ls : Array Slot), va_P (dC, dI) vwCl (cDk a cI cC cS G) H → va_S (va_A [] s.heap.size) s.heap H locs → lv_has ls 5 [(0, .ref (a 0)), (1, .long x1_6), (3, .int x3_6)] → W p l e (headSpec wsL_digest rm_L_digest).room s m ([.ref (a 0)] : List Value).toArray below meth c H locs 0 0 (MQ below (va_Ql (fun (r : Int64) (_ : Unit) => r = f_L_digest G) (fun _ _ => True) (va_A [] s.heap.size)) ([.ref (a 0)] : List Value).toArray s 0 0 (va_A [] s.heap.size)) (F0 m 6 ls []) := by
    intro n_6
    induction n_6 with
    | zero =>
      intro j_6 x1_6 x3_6 ex3_6 hj0_6 hn_6
      exact absurd hn_6 (by omega)
    | succ n_6 ih_6 =>
      intro j_6 x1_6 x3_6 ex3_6 hj0_6 hn_6 hR H locs ls hP hS hl
      rw [f_L_digest_p6] at hR
      refine lv_iload_n hx hb dL_digest_6 rfl (lv_at hl 2 rfl) ?_
      refine lv_bipush (v := 9) hx hb dL_digest_7 (by decide) ?_
      refine lv_icmp_ge (tgt := 31) hx hb dL_digest_9 (by decide) (fun c1 => ?_) (fun c1 => ?_)
      · rw [if_pos c1] at hR
        refine lv_iconst (v := 0) hx hb dL_digest_31 (by decide) ?_
        refine lv_istore_n (lv' := [(3, .int 0), (0, .ref (a 0)), (1, .long x1_6)]) hx hb dL_digest_32 rfl hl (by decide) rfl (fun ls hl => ?_)
        have hL_33 : ∀ n_33 : Nat, ∀ (j_33 : Nat), ∀ (x1_33 : Int64) (x3_33 : Int32) , x3_33 = nI j_33 → j_33 ≤ 12 → 12 < j_33 + n_33 → R0 = f_L_digest_p33 G n_33 x1_33 x3_33 → ∀ (H : Heap) (locs : List Loc) (ls : Array Slot), va_P (dC, dI) vwCl (cDk a cI cC cS G) H → va_S (va_A [] s.heap.size) s.heap H locs → lv_has ls 5 [(0, .ref (a 0)), (1, .long x1_33), (3, .int x3_33)] → W p l e (headSpec wsL_digest rm_L_digest).room s m ([.ref (a 0)] : List Value).toArray below meth c H locs 0 0 (MQ below (va_Ql (fun (r : Int64) (_ : Unit) => r = f_L_digest G) (fun _ _ => True) (va_A [] s.heap.size)) ([.ref (a 0)] : List Value).toArray s 0 0 (va_A [] s.heap.size)) (F0 m 33 ls []) := by
          intro n_33
          induction n_33 with
          | zero =>
            intro j_33 x1_33 x3_33 ex3_33 hj0_33 hn_33
            exact absurd hn_33 (by omega)
          | succ n_33 ih_33 =>
            intro j_33 x1_33 x3_33 ex3_33 hj0_33 hn_33 hR H locs ls hP hS hl
            rw [f_L_digest_p33] at hR
            refine lv_iload_n hx hb dL_digest_33 rfl (lv_at hl 2 rfl) ?_
            refine lv_bipush (v := 12) hx hb dL_digest_34 (by decide) ?_
            refine lv_icmp_ge (tgt := 76) hx hb dL_digest_36 (by decide) (fun c2 => ?_) (fun c2 => ?_)
            · rw [if_pos c2] at hR
              refine lv_iconst (v := 0) hx hb dL_digest_76 (by decide) ?_
              refine lv_istore_n (lv' := [(3, .int 0), (0, .ref (a 0)), (1, .long x1_33)]) hx hb dL_digest_77 rfl hl (by decide) rfl (fun ls hl => ?_)
              have hL_78 : ∀ n_78 : Nat, ∀ (j_78 : Nat), ∀ (x1_78 : Int64) (x3_78 : Int32) , x3_78 = nI j_78 → j_78 ≤ 4 → 4 < j_78 + n_78 → R0 = f_L_digest_p78 G n_78 x1_78 x3_78 → ∀ (H : Heap) (locs : List Loc) (ls : Array Slot), va_P (dC, dI) vwCl (cDk a cI cC cS G) H → va_S (va_A [] s.heap.size) s.heap H locs → lv_has ls 5 [(0, .ref (a 0)), (1, .long x1_78), (3, .int x3_78)] → W p l e (headSpec wsL_digest rm_L_digest).room s m ([.ref (a 0)] : List Value).toArray below meth c H locs 0 0 (MQ below (va_Ql (fun (r : Int64) (_ : Unit) => r = f_L_digest G) (fun _ _ => True) (va_A [] s.heap.size)) ([.ref (a 0)] : List Value).toArray s 0 0 (va_A [] s.heap.size)) (F0 m 78 ls []) := by
                intro n_78
                induction n_78 with
                | zero =>
                  intro j_78 x1_78 x3_78 ex3_78 hj0_78 hn_78
                  exact absurd hn_78 (by omega)
                | succ n_78 ih_78 =>
                  intro j_78 x1_78 x3_78 ex3_78 hj0_78 hn_78 hR H locs ls hP hS hl
                  rw [f_L_digest_p78] at hR
                  refine lv_iload_n hx hb dL_digest_78 rfl (lv_at hl 2 rfl) ?_
                  refine lv_iconst (v := 4) hx hb dL_digest_79 (by decide) ?_
                  refine lv_icmp_ge (tgt := 166) hx hb dL_digest_80 (by decide) (fun c3 => ?_) (fun c3 => ?_)
                  · rw [if_pos c3] at hR
                    refine lv_iconst (v := 0) hx hb dL_digest_166 (by decide) ?_
                    refine lv_istore_n (lv' := [(3, .int 0), (0, .ref (a 0)), (1, .long x1_78)]) hx hb dL_digest_167 rfl hl (by decide) rfl (fun ls hl => ?_)
                    have hL_168 : ∀ n_168 : Nat, ∀ (j_168 : Nat), ∀ (x1_168 : Int64) (x3_168 : Int32) , x3_168 = nI j_168 → j_168 ≤ 6 → 6 < j_168 + n_168 → R0 = f_L_digest_p168 G n_168 x1_168 x3_168 → ∀ (H : Heap) (locs : List Loc) (ls : Array Slot), va_P (dC, dI) vwCl (cDk a cI cC cS G) H → va_S (va_A [] s.heap.size) s.heap H locs → lv_has ls 5 [(0, .ref (a 0)), (1, .long x1_168), (3, .int x3_168)] → W p l e (headSpec wsL_digest rm_L_digest).room s m ([.ref (a 0)] : List Value).toArray below meth c H locs 0 0 (MQ below (va_Ql (fun (r : Int64) (_ : Unit) => r = f_L_digest G) (fun _ _ => True) (va_A [] s.heap.size)) ([.ref (a 0)] : List Value).toArray s 0 0 (va_A [] s.heap.size)) (F0 m 168 ls []) := by
                      intro n_168
                      induction n_168 with
                      | zero =>
                        intro j_168 x1_168 x3_168 ex3_168 hj0_168 hn_168
                        exact absurd hn_168 (by omega)
                      | succ n_168 ih_168 =>
                        intro j_168 x1_168 x3_168 ex3_168 hj0_168 hn_168 hR H locs ls hP hS hl
                        rw [f_L_digest_p168] at hR
                        refine lv_iload_n hx hb dL_digest_168 rfl (lv_at hl 2 rfl) ?_
                        refine lv_bipush (v := 6) hx hb dL_digest_169 (by decide) ?_
                        refine lv_icmp_ge (tgt := 211) hx hb dL_digest_171 (by decide) (fun c4 => ?_) (fun c4 => ?_)
                        · rw [if_pos c4] at hR
                          refine lv_lload_n hx hb dL_digest_211 rfl (lv_at hl 1 rfl) ?_
                          exact W.lret (v := x1_168) hx hb hr (fun t ht hWw => ⟨⟨x1_168, (), rfl, hR.symm.trans eR, trivial⟩, hS.F ht⟩) hS.2.2 dL_digest_212
                        · rw [if_neg c4] at hR
                          have hj_168 : j_168 < 6 := lp_ge ex3_168 (by decide +kernel) (by omega) (by omega) c4
                          refine lv_iconst (v := 0) hx hb dL_digest_174 (by decide) ?_
                          refine lv_istore (lv' := [(4, .int 0), (0, .ref (a 0)), (1, .long x1_168), (3, .int x3_168)]) hx hb dL_digest_175 hl (by decide) rfl (fun ls hl => ?_)
                          have hL_177 : ∀ n_177 : Nat, ∀ (j_177 : Nat), ∀ (x1_177 : Int64) (x3_177 : Int32) (x4_177 : Int32) , x4_177 = nI j_177 → j_177 ≤ 17 → 17 < j_177 + n_177 → x3_177 = nI j_168 → R0 = f_L_digest_p177 G (f_L_digest_p168 G n_168) n_177 x1_177 x3_177 x4_177 → ∀ (H : Heap) (locs : List Loc) (ls : Array Slot), va_P (dC, dI) vwCl (cDk a cI cC cS G) H → va_S (va_A [] s.heap.size) s.heap H locs → lv_has ls 5 [(0, .ref (a 0)), (1, .long x1_177), (3, .int x3_177), (4, .int x4_177)] → W p l e (headSpec wsL_digest rm_L_digest).room s m ([.ref (a 0)] : List Value).toArray below meth c H locs 0 0 (MQ below (va_Ql (fun (r : Int64) (_ : Unit) => r = f_L_digest G) (fun _ _ => True) (va_A [] s.heap.size)) ([.ref (a 0)] : List Value).toArray s 0 0 (va_A [] s.heap.size)) (F0 m 177 ls []) := by
                            intro n_177
                            induction n_177 with
                            | zero =>
                              intro j_177 x1_177 x3_177 x4_177 ex4_177 hj0_177 hn_177 ex3_177
                              exact absurd hn_177 (by omega)
                            | succ n_177 ih_177 =>
                              intro j_177 x1_177 x3_177 x4_177 ex4_177 hj0_177 hn_177 ex3_177 hR H locs ls hP hS hl
                              rw [f_L_digest_p177] at hR
                              refine lv_iload hx hb dL_digest_177 (lv_at hl 3 rfl) ?_
                              refine lv_bipush (v := 17) hx hb dL_digest_179 (by decide) ?_
                              refine lv_icmp_ge (tgt := 205) hx hb dL_digest_181 (by decide) (fun c5 => ?_) (fun c5 => ?_)
                              · rw [if_pos c5] at hR
                                refine lv_iinc (v := x3_177 + 1) (lv' := [(3, .int (x3_177 + 1)), (0, .ref (a 0)), (1, .long x1_177), (4, .int x4_177)]) hx hb dL_digest_205 hl (k := 2) rfl rfl (by decide) rfl (fun ls hl => ?_)
                                refine lv_goto (tgt := 168) hx hb dL_digest_208 (by decide) ?_
                                exact ih_168 (j_168 + 1) x1_177 (x3_177 + 1) (by rw [ex3_177, nI_1]) (by omega) (by omega) hR _ _ _ hP hS (lv_sub hl [1, 2, 0] rfl)
                              · rw [if_neg c5] at hR
                                have hj_177 : j_177 < 17 := lp_ge ex4_177 (by decide +kernel) (by omega) (by omega) c5
                                refine lv_ldc2 (v := 31) hx hb hown (hts (.constantLong RL 10 (31)) (List.mem_of_getElem? (i := 2) rfl)) dL_digest_184 ?_
                                refine lv_lload_n hx hb dL_digest_187 rfl (lv_at hl 1 rfl) ?_
                                refine lv_lmul hx hb dL_digest_188 ?_
                                refine lv_aload_n hx hb dL_digest_189 rfl (lv_at hl 0 rfl) ?_
                                refine lv_iload_n hx hb dL_digest_190 rfl (lv_at hl 2 rfl) ?_
                                refine lv_iload hx hb dL_digest_191 (lv_at hl 3 rfl) ?_
                                have hPc : va_P (dC, dI) vwCl (cDk a cI cC cS G) H := hP.sub [0, 1, 2, 3, 4, 5, 6, 7, 8, 9, 10, 11, 12, 13, 14, 15, 16, 17, 18, 19, 20, 21, 22, 23, 24, 25, 26, 27, 28, 29, 30, 31, 32, 33, 34, 35, 36, 37, 38, 39, 40, 41, 42, 43, 44, 45, 46, 47, 48, 49, 50, 51, 52, 53, 54, 55, 56, 57, 58, 59, 60, 61, 62, 63, 64, 65, 66, 67, 68, 69, 70, 71, 72, 73, 74, 75, 76, 77, 78, 79, 80, 81, 82, 83, 84, 85, 86, 87, 88, 89, 90, 91, 92] rfl
                                have hDc : va_D (fun _ => True) (cDk a cI cC cS G) := hD0.sub [0, 1, 2, 3, 4, 5, 6, 7, 8, 9, 10, 11, 12, 13, 14, 15, 16, 17, 18, 19, 20, 21, 22, 23, 24, 25, 26, 27, 28, 29, 30, 31, 32, 33, 34, 35, 36, 37, 38, 39, 40, 41, 42, 43, 44, 45, 46, 47, 48, 49, 50, 51, 52, 53, 54, 55, 56, 57, 58, 59, 60, 61, 62, 63, 64, 65, 66, 67, 68, 69, 70, 71, 72, 73, 74, 75, 76, 77, 78, 79, 80, 81, 82, 83, 84, 85, 86, 87, 88, 89, 90, 91, 92] (by decide) rfl
                                have hFc : ∀ q : Nat, va_A [] H.size q → (va_A [] s.heap.size) q := roF hS hA
                                refine va_calli (va_runV (As := [.int x3_177, .int x4_177]) (rest := [.long (31 * x1_177)]) ⟨hx, hb, hml, hown, hts⟩ (c_X5_scene l dC dI cI cC cS a G H.size x3_177 x4_177 hG) (cwV 2 hts gL_digest_X5_scene rfl rfl rfl (by decide +kernel) ⟨Nat.le_of_ble_eq_true rfl, Nat.le_of_ble_eq_true rfl⟩) (pV (q0 := 0) hK hPc hDc hN rfl rfl) rfl rfl hl.1 rfl (lv_room (Nat.le_of_ble_eq_true rfl)) dL_digest_193 ⟨Nat.le_of_ble_eq_true rfl, Nat.le_of_ble_eq_true rfl⟩) hS (fun q _ h => hFc q h) hFc (fun r_6 u_6 t_6 H7 locs ht hvm hw hB hz1 hk1 hS => ?_)
                                subst hw
                                have hP := ro_keep hP hk1
                                refine lv_i2l (v := (f_X5_scene G x3_177 x4_177).toInt64) hx hb dL_digest_196 rfl ?_
                                refine lv_ladd hx hb dL_digest_197 ?_
                                refine lv_lstore_n (lv' := [(1, .long ((31 * x1_177) + ((f_X5_scene G x3_177 x4_177).toInt64))), (0, .ref (a 0)), (3, .int x3_177), (4, .int x4_177)]) hx hb dL_digest_198 rfl hl (by decide) rfl (fun ls hl => ?_)
                                refine lv_iinc (v := x4_177 + 1) (lv' := [(4, .int (x4_177 + 1)), (1, .long ((31 * x1_177) + ((f_X5_scene G x3_177 x4_177).toInt64))), (0, .ref (a 0)), (3, .int x3_177)]) hx hb dL_digest_199 hl (k := 3) rfl rfl (by decide) rfl (fun ls hl => ?_)
                                refine lv_goto (tgt := 177) hx hb dL_digest_202 (by decide) ?_
                                exact ih_177 (j_177 + 1) ((31 * x1_177) + ((f_X5_scene G x3_177 x4_177).toInt64)) x3_177 (x4_177 + 1) (by rw [ex4_177, nI_1]) (by omega) (by omega) ex3_177 hR _ _ _ hP hS (lv_sub hl [2, 1, 3, 0] rfl)
                          exact hL_177 18 0 x1_168 x3_168 0 (by decide +kernel) (by decide) (by decide) ex3_168 hR _ _ _ hP hS (lv_sub hl [1, 2, 3, 0] rfl)
                    exact hL_168 7 0 x1_78 0 (by decide +kernel) (by decide) (by decide) hR _ _ _ hP hS (lv_sub hl [1, 2, 0] rfl)
                  · rw [if_neg c3] at hR
                    have hj_78 : j_78 < 4 := lp_ge ex3_78 (by decide +kernel) (by omega) (by omega) c3
                    refine lv_iconst (v := 0) hx hb dL_digest_83 (by decide) ?_
                    refine lv_istore (lv' := [(4, .int 0), (0, .ref (a 0)), (1, .long x1_78), (3, .int x3_78)]) hx hb dL_digest_84 hl (by decide) rfl (fun ls hl => ?_)
                    have hL_86 : ∀ n_86 : Nat, ∀ (j_86 : Nat), ∀ (x1_86 : Int64) (x3_86 : Int32) (x4_86 : Int32) , x4_86 = nI j_86 → j_86 ≤ 4 → 4 < j_86 + n_86 → x3_86 = nI j_78 → R0 = f_L_digest_p86 G (f_L_digest_p78 G n_78) n_86 x1_86 x3_86 x4_86 → ∀ (H : Heap) (locs : List Loc) (ls : Array Slot), va_P (dC, dI) vwCl (cDk a cI cC cS G) H → va_S (va_A [] s.heap.size) s.heap H locs → lv_has ls 5 [(0, .ref (a 0)), (1, .long x1_86), (3, .int x3_86), (4, .int x4_86)] → W p l e (headSpec wsL_digest rm_L_digest).room s m ([.ref (a 0)] : List Value).toArray below meth c H locs 0 0 (MQ below (va_Ql (fun (r : Int64) (_ : Unit) => r = f_L_digest G) (fun _ _ => True) (va_A [] s.heap.size)) ([.ref (a 0)] : List Value).toArray s 0 0 (va_A [] s.heap.size)) (F0 m 86 ls []) := by
                      intro n_86
                      induction n_86 with
                      | zero =>
                        intro j_86 x1_86 x3_86 x4_86 ex4_86 hj0_86 hn_86 ex3_86
                        exact absurd hn_86 (by omega)
                      | succ n_86 ih_86 =>
                        intro j_86 x1_86 x3_86 x4_86 ex4_86 hj0_86 hn_86 ex3_86 hR H locs ls hP hS hl
                        rw [f_L_digest_p86] at hR
                        refine lv_iload hx hb dL_digest_86 (lv_at hl 3 rfl) ?_
                        refine lv_iconst (v := 4) hx hb dL_digest_88 (by decide) ?_
                        refine lv_icmp_ge (tgt := 128) hx hb dL_digest_89 (by decide) (fun c8 => ?_) (fun c8 => ?_)
                        · rw [if_pos c8] at hR
                          refine lv_iconst (v := 0) hx hb dL_digest_128 (by decide) ?_
                          refine lv_istore (lv' := [(4, .int 0), (0, .ref (a 0)), (1, .long x1_86), (3, .int x3_86)]) hx hb dL_digest_129 hl (by decide) rfl (fun ls hl => ?_)
                          have hL_131 : ∀ n_131 : Nat, ∀ (j_131 : Nat), ∀ (x1_131 : Int64) (x3_131 : Int32) (x4_131 : Int32) , x4_131 = nI j_131 → j_131 ≤ 12 → 12 < j_131 + n_131 → x3_131 = nI j_78 → R0 = f_L_digest_p131 G (f_L_digest_p78 G n_78) n_131 x1_131 x3_131 x4_131 → ∀ (H : Heap) (locs : List Loc) (ls : Array Slot), va_P (dC, dI) vwCl (cDk a cI cC cS G) H → va_S (va_A [] s.heap.size) s.heap H locs → lv_has ls 5 [(0, .ref (a 0)), (1, .long x1_131), (3, .int x3_131), (4, .int x4_131)] → W p l e (headSpec wsL_digest rm_L_digest).room s m ([.ref (a 0)] : List Value).toArray below meth c H locs 0 0 (MQ below (va_Ql (fun (r : Int64) (_ : Unit) => r = f_L_digest G) (fun _ _ => True) (va_A [] s.heap.size)) ([.ref (a 0)] : List Value).toArray s 0 0 (va_A [] s.heap.size)) (F0 m 131 ls []) := by
                            intro n_131
                            induction n_131 with
                            | zero =>
                              intro j_131 x1_131 x3_131 x4_131 ex4_131 hj0_131 hn_131 ex3_131
                              exact absurd hn_131 (by omega)
                            | succ n_131 ih_131 =>
                              intro j_131 x1_131 x3_131 x4_131 ex4_131 hj0_131 hn_131 ex3_131 hR H locs ls hP hS hl
                              rw [f_L_digest_p131] at hR
                              refine lv_iload hx hb dL_digest_131 (lv_at hl 3 rfl) ?_
                              refine lv_bipush (v := 12) hx hb dL_digest_133 (by decide) ?_
                              refine lv_icmp_ge (tgt := 160) hx hb dL_digest_135 (by decide) (fun c9 => ?_) (fun c9 => ?_)
                              · rw [if_pos c9] at hR
                                refine lv_iinc (v := x3_131 + 1) (lv' := [(3, .int (x3_131 + 1)), (0, .ref (a 0)), (1, .long x1_131), (4, .int x4_131)]) hx hb dL_digest_160 hl (k := 2) rfl rfl (by decide) rfl (fun ls hl => ?_)
                                refine lv_goto (tgt := 78) hx hb dL_digest_163 (by decide) ?_
                                exact ih_78 (j_78 + 1) x1_131 (x3_131 + 1) (by rw [ex3_131, nI_1]) (by omega) (by omega) hR _ _ _ hP hS (lv_sub hl [1, 2, 0] rfl)
                              · rw [if_neg c9] at hR
                                have hj_131 : j_131 < 12 := lp_ge ex4_131 (by decide +kernel) (by omega) (by omega) c9
                                refine lv_ldc2 (v := 31) hx hb hown (hts (.constantLong RL 10 (31)) (List.mem_of_getElem? (i := 2) rfl)) dL_digest_138 ?_
                                refine lv_lload_n hx hb dL_digest_141 rfl (lv_at hl 1 rfl) ?_
                                refine lv_lmul hx hb dL_digest_142 ?_
                                refine lv_aload_n hx hb dL_digest_143 rfl (lv_at hl 0 rfl) ?_
                                refine lv_iload_n hx hb dL_digest_144 rfl (lv_at hl 2 rfl) ?_
                                refine lv_iload hx hb dL_digest_145 (lv_at hl 3 rfl) ?_
                                refine lv_iconst (v := 0) hx hb dL_digest_147 (by decide) ?_
                                have hPc : va_P (dC, dI) vwCl (cDk a cI cC cS G) H := hP.sub [0, 1, 2, 3, 4, 5, 6, 7, 8, 9, 10, 11, 12, 13, 14, 15, 16, 17, 18, 19, 20, 21, 22, 23, 24, 25, 26, 27, 28, 29, 30, 31, 32, 33, 34, 35, 36, 37, 38, 39, 40, 41, 42, 43, 44, 45, 46, 47, 48, 49, 50, 51, 52, 53, 54, 55, 56, 57, 58, 59, 60, 61, 62, 63, 64, 65, 66, 67, 68, 69, 70, 71, 72, 73, 74, 75, 76, 77, 78, 79, 80, 81, 82, 83, 84, 85, 86, 87, 88, 89, 90, 91, 92] rfl
                                have hDc : va_D (fun _ => True) (cDk a cI cC cS G) := hD0.sub [0, 1, 2, 3, 4, 5, 6, 7, 8, 9, 10, 11, 12, 13, 14, 15, 16, 17, 18, 19, 20, 21, 22, 23, 24, 25, 26, 27, 28, 29, 30, 31, 32, 33, 34, 35, 36, 37, 38, 39, 40, 41, 42, 43, 44, 45, 46, 47, 48, 49, 50, 51, 52, 53, 54, 55, 56, 57, 58, 59, 60, 61, 62, 63, 64, 65, 66, 67, 68, 69, 70, 71, 72, 73, 74, 75, 76, 77, 78, 79, 80, 81, 82, 83, 84, 85, 86, 87, 88, 89, 90, 91, 92] (by decide) rfl
                                have hFc : ∀ q : Nat, va_A [] H.size q → (va_A [] s.heap.size) q := roF hS hA
                                refine va_calli (va_runV (As := [.int x3_131, .int x4_131, .int 0]) (rest := [.long (31 * x1_131)]) ⟨hx, hb, hml, hown, hts⟩ (c_X5_send l dC dI cI cC cS a G H.size x3_131 x4_131 0 hG) (cwV 3 hts gL_digest_X5_send rfl rfl rfl (by decide +kernel) ⟨Nat.le_of_ble_eq_true rfl, Nat.le_of_ble_eq_true rfl⟩) (pV (q0 := 0) hK hPc hDc hN rfl rfl) rfl rfl hl.1 rfl (lv_room (Nat.le_of_ble_eq_true rfl)) dL_digest_148 ⟨Nat.le_of_ble_eq_true rfl, Nat.le_of_ble_eq_true rfl⟩) hS (fun q _ h => hFc q h) hFc (fun r_10 u_10 t_10 H11 locs ht hvm hw hB hz1 hk1 hS => ?_)
                                subst hw
                                have hP := ro_keep hP hk1
                                refine lv_i2l (v := (f_X5_send G x3_131 x4_131 0).toInt64) hx hb dL_digest_151 rfl ?_
                                refine lv_ladd hx hb dL_digest_152 ?_
                                refine lv_lstore_n (lv' := [(1, .long ((31 * x1_131) + ((f_X5_send G x3_131 x4_131 0).toInt64))), (0, .ref (a 0)), (3, .int x3_131), (4, .int x4_131)]) hx hb dL_digest_153 rfl hl (by decide) rfl (fun ls hl => ?_)
                                refine lv_iinc (v := x4_131 + 1) (lv' := [(4, .int (x4_131 + 1)), (1, .long ((31 * x1_131) + ((f_X5_send G x3_131 x4_131 0).toInt64))), (0, .ref (a 0)), (3, .int x3_131)]) hx hb dL_digest_154 hl (k := 3) rfl rfl (by decide) rfl (fun ls hl => ?_)
                                refine lv_goto (tgt := 131) hx hb dL_digest_157 (by decide) ?_
                                exact ih_131 (j_131 + 1) ((31 * x1_131) + ((f_X5_send G x3_131 x4_131 0).toInt64)) x3_131 (x4_131 + 1) (by rw [ex4_131, nI_1]) (by omega) (by omega) ex3_131 hR _ _ _ hP hS (lv_sub hl [2, 1, 3, 0] rfl)
                          exact hL_131 13 0 x1_86 x3_86 0 (by decide +kernel) (by decide) (by decide) ex3_86 hR _ _ _ hP hS (lv_sub hl [1, 2, 3, 0] rfl)
                        · rw [if_neg c8] at hR
                          have hj_86 : j_86 < 4 := lp_ge ex4_86 (by decide +kernel) (by omega) (by omega) c8
                          refine lv_ldc2 (v := 31) hx hb hown (hts (.constantLong RL 10 (31)) (List.mem_of_getElem? (i := 2) rfl)) dL_digest_92 ?_
                          refine lv_lload_n hx hb dL_digest_95 rfl (lv_at hl 1 rfl) ?_
                          refine lv_lmul hx hb dL_digest_96 ?_
                          refine lv_aload_n hx hb dL_digest_97 rfl (lv_at hl 0 rfl) ?_
                          refine lv_iload_n hx hb dL_digest_98 rfl (lv_at hl 2 rfl) ?_
                          refine lv_iload hx hb dL_digest_99 (lv_at hl 3 rfl) ?_
                          have hPc : va_P (dC, dI) vwCl (cDk a cI cC cS G) H := hP.sub [0, 1, 2, 3, 4, 5, 6, 7, 8, 9, 10, 11, 12, 13, 14, 15, 16, 17, 18, 19, 20, 21, 22, 23, 24, 25, 26, 27, 28, 29, 30, 31, 32, 33, 34, 35, 36, 37, 38, 39, 40, 41, 42, 43, 44, 45, 46, 47, 48, 49, 50, 51, 52, 53, 54, 55, 56, 57, 58, 59, 60, 61, 62, 63, 64, 65, 66, 67, 68, 69, 70, 71, 72, 73, 74, 75, 76, 77, 78, 79, 80, 81, 82, 83, 84, 85, 86, 87, 88, 89, 90, 91, 92] rfl
                          have hDc : va_D (fun _ => True) (cDk a cI cC cS G) := hD0.sub [0, 1, 2, 3, 4, 5, 6, 7, 8, 9, 10, 11, 12, 13, 14, 15, 16, 17, 18, 19, 20, 21, 22, 23, 24, 25, 26, 27, 28, 29, 30, 31, 32, 33, 34, 35, 36, 37, 38, 39, 40, 41, 42, 43, 44, 45, 46, 47, 48, 49, 50, 51, 52, 53, 54, 55, 56, 57, 58, 59, 60, 61, 62, 63, 64, 65, 66, 67, 68, 69, 70, 71, 72, 73, 74, 75, 76, 77, 78, 79, 80, 81, 82, 83, 84, 85, 86, 87, 88, 89, 90, 91, 92] (by decide) rfl
                          have hFc : ∀ q : Nat, va_A [] H.size q → (va_A [] s.heap.size) q := roF hS hA
                          refine va_calli (va_runV (As := [.int x3_86, .int x4_86]) (rest := [.long (31 * x1_86)]) ⟨hx, hb, hml, hown, hts⟩ (c_X5_group l dC dI cI cC cS a G H.size x3_86 x4_86 hG) (cwV 2 hts gL_digest_X5_group rfl rfl rfl (by decide +kernel) ⟨Nat.le_of_ble_eq_true rfl, Nat.le_of_ble_eq_true rfl⟩) (pVS (q0 := 0) hK hPc hDc hN hT hS hFc rfl rfl) rfl rfl hl.1 rfl (lv_room (Nat.le_of_ble_eq_true rfl)) dL_digest_101 ⟨Nat.le_of_ble_eq_true rfl, Nat.le_of_ble_eq_true rfl⟩) hS (fun q _ h => hFc q h) hFc (fun r_12 u_12 t_12 H13 locs ht hvm hw hB hz1 hk1 hS => ?_)
                          subst hw
                          have hP := ro_keep hP hk1
                          refine lv_i2l (v := (f_X5_group G x3_86 x4_86).toInt64) hx hb dL_digest_104 rfl ?_
                          refine lv_ladd hx hb dL_digest_105 ?_
                          refine lv_lstore_n (lv' := [(1, .long ((31 * x1_86) + ((f_X5_group G x3_86 x4_86).toInt64))), (0, .ref (a 0)), (3, .int x3_86), (4, .int x4_86)]) hx hb dL_digest_106 rfl hl (by decide) rfl (fun ls hl => ?_)
                          refine lv_ldc2 (v := 31) hx hb hown (hts (.constantLong RL 10 (31)) (List.mem_of_getElem? (i := 2) rfl)) dL_digest_107 ?_
                          refine lv_lload_n hx hb dL_digest_110 rfl (lv_at hl 0 rfl) ?_
                          refine lv_lmul hx hb dL_digest_111 ?_
                          refine lv_aload_n hx hb dL_digest_112 rfl (lv_at hl 1 rfl) ?_
                          refine lv_iload_n hx hb dL_digest_113 rfl (lv_at hl 2 rfl) ?_
                          refine lv_iload hx hb dL_digest_114 (lv_at hl 3 rfl) ?_
                          have hPc : va_P (dC, dI) vwCl (cDk a cI cC cS G) H13 := hP.sub [0, 1, 2, 3, 4, 5, 6, 7, 8, 9, 10, 11, 12, 13, 14, 15, 16, 17, 18, 19, 20, 21, 22, 23, 24, 25, 26, 27, 28, 29, 30, 31, 32, 33, 34, 35, 36, 37, 38, 39, 40, 41, 42, 43, 44, 45, 46, 47, 48, 49, 50, 51, 52, 53, 54, 55, 56, 57, 58, 59, 60, 61, 62, 63, 64, 65, 66, 67, 68, 69, 70, 71, 72, 73, 74, 75, 76, 77, 78, 79, 80, 81, 82, 83, 84, 85, 86, 87, 88, 89, 90, 91, 92] rfl
                          have hDc : va_D (fun _ => True) (cDk a cI cC cS G) := hD0.sub [0, 1, 2, 3, 4, 5, 6, 7, 8, 9, 10, 11, 12, 13, 14, 15, 16, 17, 18, 19, 20, 21, 22, 23, 24, 25, 26, 27, 28, 29, 30, 31, 32, 33, 34, 35, 36, 37, 38, 39, 40, 41, 42, 43, 44, 45, 46, 47, 48, 49, 50, 51, 52, 53, 54, 55, 56, 57, 58, 59, 60, 61, 62, 63, 64, 65, 66, 67, 68, 69, 70, 71, 72, 73, 74, 75, 76, 77, 78, 79, 80, 81, 82, 83, 84, 85, 86, 87, 88, 89, 90, 91, 92] (by decide) rfl
                          have hFc : ∀ q : Nat, va_A [] H13.size q → (va_A [] s.heap.size) q := roF hS hA
                          refine va_calli (va_runV (As := [.int x3_86, .int x4_86]) (rest := [.long (31 * ((31 * x1_86) + ((f_X5_group G x3_86 x4_86).toInt64)))]) ⟨hx, hb, hml, hown, hts⟩ (c_X5_feed l dC dI cI cC cS a G H13.size x3_86 x4_86 hG) (cwV 2 hts gL_digest_X5_feed rfl rfl rfl (by decide +kernel) ⟨Nat.le_of_ble_eq_true rfl, Nat.le_of_ble_eq_true rfl⟩) (pV (q0 := 0) hK hPc hDc hN rfl rfl) rfl rfl hl.1 rfl (lv_room (Nat.le_of_ble_eq_true rfl)) dL_digest_116 ⟨Nat.le_of_ble_eq_true rfl, Nat.le_of_ble_eq_true rfl⟩) hS (fun q _ h => hFc q h) hFc (fun r_14 u_14 t_14 H15 locs ht hvm hw hB hz1 hk1 hS => ?_)
                          subst hw
                          have hP := ro_keep hP hk1
                          refine lv_i2l (v := (f_X5_feed G x3_86 x4_86).toInt64) hx hb dL_digest_119 rfl ?_
                          refine lv_ladd hx hb dL_digest_120 ?_
                          refine lv_lstore_n (lv' := [(1, .long ((31 * ((31 * x1_86) + ((f_X5_group G x3_86 x4_86).toInt64))) + ((f_X5_feed G x3_86 x4_86).toInt64))), (0, .ref (a 0)), (3, .int x3_86), (4, .int x4_86)]) hx hb dL_digest_121 rfl hl (by decide) rfl (fun ls hl => ?_)
                          refine lv_iinc (v := x4_86 + 1) (lv' := [(4, .int (x4_86 + 1)), (1, .long ((31 * ((31 * x1_86) + ((f_X5_group G x3_86 x4_86).toInt64))) + ((f_X5_feed G x3_86 x4_86).toInt64))), (0, .ref (a 0)), (3, .int x3_86)]) hx hb dL_digest_122 hl (k := 3) rfl rfl (by decide) rfl (fun ls hl => ?_)
                          refine lv_goto (tgt := 86) hx hb dL_digest_125 (by decide) ?_
                          exact ih_86 (j_86 + 1) ((31 * ((31 * x1_86) + ((f_X5_group G x3_86 x4_86).toInt64))) + ((f_X5_feed G x3_86 x4_86).toInt64)) x3_86 (x4_86 + 1) (by rw [ex4_86, nI_1]) (by omega) (by omega) ex3_86 hR _ _ _ hP hS (lv_sub hl [2, 1, 3, 0] rfl)
                    exact hL_86 5 0 x1_78 x3_78 0 (by decide +kernel) (by decide) (by decide) ex3_78 hR _ _ _ hP hS (lv_sub hl [1, 2, 3, 0] rfl)
              exact hL_78 5 0 x1_33 0 (by decide +kernel) (by decide) (by decide) hR _ _ _ hP hS (lv_sub hl [1, 2, 0] rfl)
            · rw [if_neg c2] at hR
              have hj_33 : j_33 < 12 := lp_ge ex3_33 (by decide +kernel) (by omega) (by omega) c2
              refine lv_iconst (v := 0) hx hb dL_digest_39 (by decide) ?_
              refine lv_istore (lv' := [(4, .int 0), (0, .ref (a 0)), (1, .long x1_33), (3, .int x3_33)]) hx hb dL_digest_40 hl (by decide) rfl (fun ls hl => ?_)
              have hL_42 : ∀ n_42 : Nat, ∀ (j_42 : Nat), ∀ (x1_42 : Int64) (x3_42 : Int32) (x4_42 : Int32) , x4_42 = nI j_42 → j_42 ≤ 9 → 9 < j_42 + n_42 → x3_42 = nI j_33 → R0 = f_L_digest_p42 G (f_L_digest_p33 G n_33) n_42 x1_42 x3_42 x4_42 → ∀ (H : Heap) (locs : List Loc) (ls : Array Slot), va_P (dC, dI) vwCl (cDk a cI cC cS G) H → va_S (va_A [] s.heap.size) s.heap H locs → lv_has ls 5 [(0, .ref (a 0)), (1, .long x1_42), (3, .int x3_42), (4, .int x4_42)] → W p l e (headSpec wsL_digest rm_L_digest).room s m ([.ref (a 0)] : List Value).toArray below meth c H locs 0 0 (MQ below (va_Ql (fun (r : Int64) (_ : Unit) => r = f_L_digest G) (fun _ _ => True) (va_A [] s.heap.size)) ([.ref (a 0)] : List Value).toArray s 0 0 (va_A [] s.heap.size)) (F0 m 42 ls []) := by
                intro n_42
                induction n_42 with
                | zero =>
                  intro j_42 x1_42 x3_42 x4_42 ex4_42 hj0_42 hn_42 ex3_42
                  exact absurd hn_42 (by omega)
                | succ n_42 ih_42 =>
                  intro j_42 x1_42 x3_42 x4_42 ex4_42 hj0_42 hn_42 ex3_42 hR H locs ls hP hS hl
                  rw [f_L_digest_p42] at hR
                  refine lv_iload hx hb dL_digest_42 (lv_at hl 3 rfl) ?_
                  refine lv_bipush (v := 9) hx hb dL_digest_44 (by decide) ?_
                  refine lv_icmp_ge (tgt := 70) hx hb dL_digest_46 (by decide) (fun c16 => ?_) (fun c16 => ?_)
                  · rw [if_pos c16] at hR
                    refine lv_iinc (v := x3_42 + 1) (lv' := [(3, .int (x3_42 + 1)), (0, .ref (a 0)), (1, .long x1_42), (4, .int x4_42)]) hx hb dL_digest_70 hl (k := 2) rfl rfl (by decide) rfl (fun ls hl => ?_)
                    refine lv_goto (tgt := 33) hx hb dL_digest_73 (by decide) ?_
                    exact ih_33 (j_33 + 1) x1_42 (x3_42 + 1) (by rw [ex3_42, nI_1]) (by omega) (by omega) hR _ _ _ hP hS (lv_sub hl [1, 2, 0] rfl)
                  · rw [if_neg c16] at hR
                    have hj_42 : j_42 < 9 := lp_ge ex4_42 (by decide +kernel) (by omega) (by omega) c16
                    refine lv_ldc2 (v := 31) hx hb hown (hts (.constantLong RL 10 (31)) (List.mem_of_getElem? (i := 2) rfl)) dL_digest_49 ?_
                    refine lv_lload_n hx hb dL_digest_52 rfl (lv_at hl 1 rfl) ?_
                    refine lv_lmul hx hb dL_digest_53 ?_
                    refine lv_aload_n hx hb dL_digest_54 rfl (lv_at hl 0 rfl) ?_
                    refine lv_iload_n hx hb dL_digest_55 rfl (lv_at hl 2 rfl) ?_
                    refine lv_iload hx hb dL_digest_56 (lv_at hl 3 rfl) ?_
                    have hPc : va_P (dC, dI) vwCl (cDk a cI cC cS G) H := hP.sub [0, 1, 2, 3, 4, 5, 6, 7, 8, 9, 10, 11, 12, 13, 14, 15, 16, 17, 18, 19, 20, 21, 22, 23, 24, 25, 26, 27, 28, 29, 30, 31, 32, 33, 34, 35, 36, 37, 38, 39, 40, 41, 42, 43, 44, 45, 46, 47, 48, 49, 50, 51, 52, 53, 54, 55, 56, 57, 58, 59, 60, 61, 62, 63, 64, 65, 66, 67, 68, 69, 70, 71, 72, 73, 74, 75, 76, 77, 78, 79, 80, 81, 82, 83, 84, 85, 86, 87, 88, 89, 90, 91, 92] rfl
                    have hDc : va_D (fun _ => True) (cDk a cI cC cS G) := hD0.sub [0, 1, 2, 3, 4, 5, 6, 7, 8, 9, 10, 11, 12, 13, 14, 15, 16, 17, 18, 19, 20, 21, 22, 23, 24, 25, 26, 27, 28, 29, 30, 31, 32, 33, 34, 35, 36, 37, 38, 39, 40, 41, 42, 43, 44, 45, 46, 47, 48, 49, 50, 51, 52, 53, 54, 55, 56, 57, 58, 59, 60, 61, 62, 63, 64, 65, 66, 67, 68, 69, 70, 71, 72, 73, 74, 75, 76, 77, 78, 79, 80, 81, 82, 83, 84, 85, 86, 87, 88, 89, 90, 91, 92] (by decide) rfl
                    have hFc : ∀ q : Nat, va_A [] H.size q → (va_A [] s.heap.size) q := roF hS hA
                    refine va_calli (va_runV (As := [.int x3_42, .int x4_42]) (rest := [.long (31 * x1_42)]) ⟨hx, hb, hml, hown, hts⟩ (c_X5_channel l dC dI cI cC cS a G H.size x3_42 x4_42 hG) (cwV 2 hts gL_digest_X5_channel rfl rfl rfl (by decide +kernel) ⟨Nat.le_of_ble_eq_true rfl, Nat.le_of_ble_eq_true rfl⟩) (pVS (q0 := 0) hK hPc hDc hN hT hS hFc rfl rfl) rfl rfl hl.1 rfl (lv_room (Nat.le_of_ble_eq_true rfl)) dL_digest_58 ⟨Nat.le_of_ble_eq_true rfl, Nat.le_of_ble_eq_true rfl⟩) hS (fun q _ h => hFc q h) hFc (fun r_17 u_17 t_17 H18 locs ht hvm hw hB hz1 hk1 hS => ?_)
                    subst hw
                    have hP := ro_keep hP hk1
                    refine lv_i2l (v := (f_X5_channel G x3_42 x4_42).toInt64) hx hb dL_digest_61 rfl ?_
                    refine lv_ladd hx hb dL_digest_62 ?_
                    refine lv_lstore_n (lv' := [(1, .long ((31 * x1_42) + ((f_X5_channel G x3_42 x4_42).toInt64))), (0, .ref (a 0)), (3, .int x3_42), (4, .int x4_42)]) hx hb dL_digest_63 rfl hl (by decide) rfl (fun ls hl => ?_)
                    refine lv_iinc (v := x4_42 + 1) (lv' := [(4, .int (x4_42 + 1)), (1, .long ((31 * x1_42) + ((f_X5_channel G x3_42 x4_42).toInt64))), (0, .ref (a 0)), (3, .int x3_42)]) hx hb dL_digest_64 hl (k := 3) rfl rfl (by decide) rfl (fun ls hl => ?_)
                    refine lv_goto (tgt := 42) hx hb dL_digest_67 (by decide) ?_
                    exact ih_42 (j_42 + 1) ((31 * x1_42) + ((f_X5_channel G x3_42 x4_42).toInt64)) x3_42 (x4_42 + 1) (by rw [ex4_42, nI_1]) (by omega) (by omega) ex3_42 hR _ _ _ hP hS (lv_sub hl [2, 1, 3, 0] rfl)
              exact hL_42 10 0 x1_33 x3_33 0 (by decide +kernel) (by decide) (by decide) ex3_33 hR _ _ _ hP hS (lv_sub hl [1, 2, 3, 0] rfl)
        exact hL_33 13 0 x1_6 0 (by decide +kernel) (by decide) (by decide) hR _ _ _ hP hS (lv_sub hl [1, 2, 0] rfl)
      · rw [if_neg c1] at hR
        have hj_6 : j_6 < 9 := lp_ge ex3_6 (by decide +kernel) (by omega) (by omega) c1
        refine lv_ldc2 (v := 31) hx hb hown (hts (.constantLong RL 10 (31)) (List.mem_of_getElem? (i := 2) rfl)) dL_digest_12 ?_
        refine lv_lload_n hx hb dL_digest_15 rfl (lv_at hl 1 rfl) ?_
        refine lv_lmul hx hb dL_digest_16 ?_
        refine lv_aload_n hx hb dL_digest_17 rfl (lv_at hl 0 rfl) ?_
        refine lv_iload_n hx hb dL_digest_18 rfl (lv_at hl 2 rfl) ?_
        have hPc : va_P (dC, dI) vwCl (cDk a cI cC cS G) H := hP.sub [0, 1, 2, 3, 4, 5, 6, 7, 8, 9, 10, 11, 12, 13, 14, 15, 16, 17, 18, 19, 20, 21, 22, 23, 24, 25, 26, 27, 28, 29, 30, 31, 32, 33, 34, 35, 36, 37, 38, 39, 40, 41, 42, 43, 44, 45, 46, 47, 48, 49, 50, 51, 52, 53, 54, 55, 56, 57, 58, 59, 60, 61, 62, 63, 64, 65, 66, 67, 68, 69, 70, 71, 72, 73, 74, 75, 76, 77, 78, 79, 80, 81, 82, 83, 84, 85, 86, 87, 88, 89, 90, 91, 92] rfl
        have hDc : va_D (fun _ => True) (cDk a cI cC cS G) := hD0.sub [0, 1, 2, 3, 4, 5, 6, 7, 8, 9, 10, 11, 12, 13, 14, 15, 16, 17, 18, 19, 20, 21, 22, 23, 24, 25, 26, 27, 28, 29, 30, 31, 32, 33, 34, 35, 36, 37, 38, 39, 40, 41, 42, 43, 44, 45, 46, 47, 48, 49, 50, 51, 52, 53, 54, 55, 56, 57, 58, 59, 60, 61, 62, 63, 64, 65, 66, 67, 68, 69, 70, 71, 72, 73, 74, 75, 76, 77, 78, 79, 80, 81, 82, 83, 84, 85, 86, 87, 88, 89, 90, 91, 92] (by decide) rfl
        have hFc : ∀ q : Nat, va_A [] H.size q → (va_A [] s.heap.size) q := roF hS hA
        refine va_calli (va_runV (As := [.int x3_6]) (rest := [.long (31 * x1_6)]) ⟨hx, hb, hml, hown, hts⟩ (c_X5_count l dC dI cI cC cS a G H.size x3_6 hG) (cwV 1 hts gL_digest_X5_count rfl rfl rfl (by decide +kernel) ⟨Nat.le_of_ble_eq_true rfl, Nat.le_of_ble_eq_true rfl⟩) (pV (q0 := 0) hK hPc hDc hN rfl rfl) rfl rfl hl.1 rfl (lv_room (Nat.le_of_ble_eq_true rfl)) dL_digest_19 ⟨Nat.le_of_ble_eq_true rfl, Nat.le_of_ble_eq_true rfl⟩) hS (fun q _ h => hFc q h) hFc (fun r_19 u_19 t_19 H20 locs ht hvm hw hB hz1 hk1 hS => ?_)
        subst hw
        have hP := ro_keep hP hk1
        refine lv_i2l (v := (f_X5_count G x3_6).toInt64) hx hb dL_digest_22 rfl ?_
        refine lv_ladd hx hb dL_digest_23 ?_
        refine lv_lstore_n (lv' := [(1, .long ((31 * x1_6) + ((f_X5_count G x3_6).toInt64))), (0, .ref (a 0)), (3, .int x3_6)]) hx hb dL_digest_24 rfl hl (by decide) rfl (fun ls hl => ?_)
        refine lv_iinc (v := x3_6 + 1) (lv' := [(3, .int (x3_6 + 1)), (1, .long ((31 * x1_6) + ((f_X5_count G x3_6).toInt64))), (0, .ref (a 0))]) hx hb dL_digest_25 hl (k := 2) rfl rfl (by decide) rfl (fun ls hl => ?_)
        refine lv_goto (tgt := 6) hx hb dL_digest_28 (by decide) ?_
        exact ih_6 (j_6 + 1) ((31 * x1_6) + ((f_X5_count G x3_6).toInt64)) (x3_6 + 1) (by rw [ex3_6, nI_1]) (by omega) (by omega) hR _ _ _ hP hS (lv_sub hl [2, 1, 0] rfl)
  exact hL_6 10 0 7 0 (by decide +kernel) (by decide) (by decide) hR _ _ _ hP hS (lv_sub hl [2, 1, 0] rfl)
