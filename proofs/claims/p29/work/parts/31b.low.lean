abbrev rm_L_low : Room := { frames := 0, cells := 0, slots := 0, locals := 0 }
def f_L_low  (p1 : Int32) (p2 : Int32) : Int32 := (p1 &&& 2147483647) - (p1 &&& 2147483647) / p2 * p2
set_option maxHeartbeats 4000000 in
set_option maxRecDepth 100000 in
theorem c_L_low (l : Launch) (dC : Nat → ClassId) (dI : Nat → Nat → Nat) (cI cC cS : ClassId)   (sz : Nat) (p1 : Int32) (p2 : Int32) (h2 : ¬ p2 = 0) : Met l yL_low wsL_low rm_L_low (PcG (dC, dI) (tyL cI cC cS) ([]) sz [.int p1, .int p2]) (va_Qi (fun (r : Int32) (_ : Unit) => r = f_L_low p1 p2) (fun _ _ => True) (va_A [] sz)) 0 0 (va_A [] sz) := by
  refine Met.ofW (cc := cL_low) (maxL := 2) (ret := (some .int)) (by decide) rfl ?_
  intro p e s m args below meth c s₁ B hml hv
  obtain ⟨rfl, hsz, hP, hK, hD0, hN⟩ := hv
  have hx := B.exec
  have hb := B.bytes
  have hr := B.returns
  have hts := atoms_spec (ws := wsL_low) B.pre
  have hown : s.vm.findClass RL = some m.cls := findClass_of_methodNamed B.named
  have hlocks := B.notSynchronized
  subst hsz
  have hA : ∀ q : Nat, s.heap.size ≤ q → (va_A [] s.heap.size) q := fun q h => Or.inr h
  have hS : va_S (va_A [] s.heap.size) s.heap s.heap [] := va_S.rf
  have hl := lv_entry [.int p1, .int p2] (n := 2) (Nat.le_of_ble_eq_true rfl)
  rw [lg_entry_eq]
  generalize (lg_sl [.int p1, .int p2] ++ List.replicate (2 - (lg_sl [.int p1, .int p2]).length) Slot.unset).toArray = ls at hl ⊢
  have hl : lv_has ls 2 [(0, .int p1), (1, .int p2)] := hl
  obtain ⟨R0, eR⟩ : ∃ z, z = f_L_low p1 p2 := ⟨_, rfl⟩
  have hR := eR
  rw [f_L_low] at hR
  refine lv_iload_n hx hb dL_low_0 rfl (lv_at hl 0 rfl) ?_
  refine lv_ldc (v := 2147483647) hx hb hown (hts (.constant RL 7 (2147483647)) (List.mem_of_getElem? (i := 1) rfl)) dL_low_1 ?_
  refine lv_iand hx hb dL_low_3 ?_
  refine lv_iload_n hx hb dL_low_4 rfl (lv_at hl 1 rfl) ?_
  refine lv_irem hx hb dL_low_5 h2 ?_
  exact W.iret (v := (p1 &&& 2147483647) - (p1 &&& 2147483647) / p2 * p2) hx hb hr (fun t ht hWw => ⟨⟨(p1 &&& 2147483647) - (p1 &&& 2147483647) / p2 * p2, (), rfl, hR.symm.trans eR, trivial⟩, hS.F ht⟩) hS.2.2 dL_low_6
