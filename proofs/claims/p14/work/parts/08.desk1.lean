abbrev rm_J6_bitCount_0f7a4 : Room := { frames := 0, cells := 0, slots := 0, locals := 0 }
def f_J6_bitCount_0f7a4  (p1 : Int32) : Int32 := (((((((p1 - (((p1.toUInt32 >>> ((1 : Int32).toUInt32 &&& Int32.toUInt32 31)).toInt32) &&& 1431655765)) &&& 858993459) + ((((p1 - (((p1.toUInt32 >>> ((1 : Int32).toUInt32 &&& Int32.toUInt32 31)).toInt32) &&& 1431655765)).toUInt32 >>> ((2 : Int32).toUInt32 &&& Int32.toUInt32 31)).toInt32) &&& 858993459)) + (((((p1 - (((p1.toUInt32 >>> ((1 : Int32).toUInt32 &&& Int32.toUInt32 31)).toInt32) &&& 1431655765)) &&& 858993459) + ((((p1 - (((p1.toUInt32 >>> ((1 : Int32).toUInt32 &&& Int32.toUInt32 31)).toInt32) &&& 1431655765)).toUInt32 >>> ((2 : Int32).toUInt32 &&& Int32.toUInt32 31)).toInt32) &&& 858993459)).toUInt32 >>> ((4 : Int32).toUInt32 &&& Int32.toUInt32 31)).toInt32)) &&& 252645135) + (((((((p1 - (((p1.toUInt32 >>> ((1 : Int32).toUInt32 &&& Int32.toUInt32 31)).toInt32) &&& 1431655765)) &&& 858993459) + ((((p1 - (((p1.toUInt32 >>> ((1 : Int32).toUInt32 &&& Int32.toUInt32 31)).toInt32) &&& 1431655765)).toUInt32 >>> ((2 : Int32).toUInt32 &&& Int32.toUInt32 31)).toInt32) &&& 858993459)) + (((((p1 - (((p1.toUInt32 >>> ((1 : Int32).toUInt32 &&& Int32.toUInt32 31)).toInt32) &&& 1431655765)) &&& 858993459) + ((((p1 - (((p1.toUInt32 >>> ((1 : Int32).toUInt32 &&& Int32.toUInt32 31)).toInt32) &&& 1431655765)).toUInt32 >>> ((2 : Int32).toUInt32 &&& Int32.toUInt32 31)).toInt32) &&& 858993459)).toUInt32 >>> ((4 : Int32).toUInt32 &&& Int32.toUInt32 31)).toInt32)) &&& 252645135).toUInt32 >>> ((8 : Int32).toUInt32 &&& Int32.toUInt32 31)).toInt32)) + ((((((((p1 - (((p1.toUInt32 >>> ((1 : Int32).toUInt32 &&& Int32.toUInt32 31)).toInt32) &&& 1431655765)) &&& 858993459) + ((((p1 - (((p1.toUInt32 >>> ((1 : Int32).toUInt32 &&& Int32.toUInt32 31)).toInt32) &&& 1431655765)).toUInt32 >>> ((2 : Int32).toUInt32 &&& Int32.toUInt32 31)).toInt32) &&& 858993459)) + (((((p1 - (((p1.toUInt32 >>> ((1 : Int32).toUInt32 &&& Int32.toUInt32 31)).toInt32) &&& 1431655765)) &&& 858993459) + ((((p1 - (((p1.toUInt32 >>> ((1 : Int32).toUInt32 &&& Int32.toUInt32 31)).toInt32) &&& 1431655765)).toUInt32 >>> ((2 : Int32).toUInt32 &&& Int32.toUInt32 31)).toInt32) &&& 858993459)).toUInt32 >>> ((4 : Int32).toUInt32 &&& Int32.toUInt32 31)).toInt32)) &&& 252645135) + (((((((p1 - (((p1.toUInt32 >>> ((1 : Int32).toUInt32 &&& Int32.toUInt32 31)).toInt32) &&& 1431655765)) &&& 858993459) + ((((p1 - (((p1.toUInt32 >>> ((1 : Int32).toUInt32 &&& Int32.toUInt32 31)).toInt32) &&& 1431655765)).toUInt32 >>> ((2 : Int32).toUInt32 &&& Int32.toUInt32 31)).toInt32) &&& 858993459)) + (((((p1 - (((p1.toUInt32 >>> ((1 : Int32).toUInt32 &&& Int32.toUInt32 31)).toInt32) &&& 1431655765)) &&& 858993459) + ((((p1 - (((p1.toUInt32 >>> ((1 : Int32).toUInt32 &&& Int32.toUInt32 31)).toInt32) &&& 1431655765)).toUInt32 >>> ((2 : Int32).toUInt32 &&& Int32.toUInt32 31)).toInt32) &&& 858993459)).toUInt32 >>> ((4 : Int32).toUInt32 &&& Int32.toUInt32 31)).toInt32)) &&& 252645135).toUInt32 >>> ((8 : Int32).toUInt32 &&& Int32.toUInt32 31)).toInt32)).toUInt32 >>> ((16 : Int32).toUInt32 &&& Int32.toUInt32 31)).toInt32)) &&& 63
set_option maxHeartbeats 4000000 in
set_option maxRecDepth 100000 in
theorem c_J6_bitCount_0f7a4 (l : Launch) (dC : Nat → ClassId) (dI : Nat → Nat → Nat) (cI cC cS : ClassId)   (sz : Nat) (p1 : Int32)  : Met l yJ6_bitCount_0f7a4 wsJ6_bitCount_0f7a4 rm_J6_bitCount_0f7a4 (PcG (dC, dI) (tyL cI cC cS) ([]) sz [.int p1]) (va_Qi (fun (r : Int32) (_ : Unit) => r = f_J6_bitCount_0f7a4 p1) (fun _ _ => True) (va_A [] sz)) 0 0 (va_A [] sz) := by
  refine Met.ofW (cc := cJ6_bitCount_0f7a4) (maxL := 1) (ret := (some .int)) (by decide) rfl ?_
  intro p e s m args below meth c s₁ B hml hv
  obtain ⟨rfl, hsz, hP, hK, hD0, hN⟩ := hv
  have hx := B.exec
  have hb := B.bytes
  have hr := B.returns
  have hts := atoms_spec (ws := wsJ6_bitCount_0f7a4) B.pre
  have hown : s.vm.findClass RJ6 = some m.cls := findClass_of_methodNamed B.named
  have hlocks := B.notSynchronized
  subst hsz
  have hA : ∀ q : Nat, s.heap.size ≤ q → (va_A [] s.heap.size) q := fun q h => Or.inr h
  have hS : va_S (va_A [] s.heap.size) s.heap s.heap [] := va_S.rf
  have hl := lv_entry [.int p1] (n := 1) (Nat.le_of_ble_eq_true rfl)
  rw [lg_entry_eq]
  generalize (lg_sl [.int p1] ++ List.replicate (1 - (lg_sl [.int p1]).length) Slot.unset).toArray = ls at hl ⊢
  have hl : lv_has ls 1 [(0, .int p1)] := hl
  obtain ⟨R0, eR⟩ : ∃ z, z = f_J6_bitCount_0f7a4 p1 := ⟨_, rfl⟩
  have hR := eR
  rw [f_J6_bitCount_0f7a4] at hR
  refine lv_iload_n hx hb dJ6_bitCount_0f7a4_0 rfl (lv_at hl 0 rfl) ?_
  refine lv_iload_n hx hb dJ6_bitCount_0f7a4_1 rfl (lv_at hl 0 rfl) ?_
  refine lv_iconst (v := 1) hx hb dJ6_bitCount_0f7a4_2 (by decide) ?_
  refine lv_iushr hx hb dJ6_bitCount_0f7a4_3 rfl ?_
  refine lv_ldcw (v := 1431655765) hx hb hown (hts (.constant RJ6 265 (1431655765)) (List.mem_of_getElem? (i := 1) rfl)) dJ6_bitCount_0f7a4_4 ?_
  refine lv_iand hx hb dJ6_bitCount_0f7a4_7 ?_
  refine lv_isub hx hb dJ6_bitCount_0f7a4_8 ?_
  refine lv_istore_n (lv' := [(0, .int (p1 - (((p1.toUInt32 >>> ((1 : Int32).toUInt32 &&& Int32.toUInt32 31)).toInt32) &&& 1431655765)))]) hx hb dJ6_bitCount_0f7a4_9 rfl hl (by decide) rfl (fun ls hl => ?_)
  refine lv_iload_n hx hb dJ6_bitCount_0f7a4_10 rfl (lv_at hl 0 rfl) ?_
  refine lv_ldcw (v := 858993459) hx hb hown (hts (.constant RJ6 266 (858993459)) (List.mem_of_getElem? (i := 2) rfl)) dJ6_bitCount_0f7a4_11 ?_
  refine lv_iand hx hb dJ6_bitCount_0f7a4_14 ?_
  refine lv_iload_n hx hb dJ6_bitCount_0f7a4_15 rfl (lv_at hl 0 rfl) ?_
  refine lv_iconst (v := 2) hx hb dJ6_bitCount_0f7a4_16 (by decide) ?_
  refine lv_iushr hx hb dJ6_bitCount_0f7a4_17 rfl ?_
  refine lv_ldcw (v := 858993459) hx hb hown (hts (.constant RJ6 266 (858993459)) (List.mem_of_getElem? (i := 2) rfl)) dJ6_bitCount_0f7a4_18 ?_
  refine lv_iand hx hb dJ6_bitCount_0f7a4_21 ?_
  refine lv_iadd hx hb dJ6_bitCount_0f7a4_22 ?_
  refine lv_istore_n (lv' := [(0, .int (((p1 - (((p1.toUInt32 >>> ((1 : Int32).toUInt32 &&& Int32.toUInt32 31)).toInt32) &&& 1431655765)) &&& 858993459) + ((((p1 - (((p1.toUInt32 >>> ((1 : Int32).toUInt32 &&& Int32.toUInt32 31)).toInt32) &&& 1431655765)).toUInt32 >>> ((2 : Int32).toUInt32 &&& Int32.toUInt32 31)).toInt32) &&& 858993459)))]) hx hb dJ6_bitCount_0f7a4_23 rfl hl (by decide) rfl (fun ls hl => ?_)
  refine lv_iload_n hx hb dJ6_bitCount_0f7a4_24 rfl (lv_at hl 0 rfl) ?_
  refine lv_iload_n hx hb dJ6_bitCount_0f7a4_25 rfl (lv_at hl 0 rfl) ?_
  refine lv_iconst (v := 4) hx hb dJ6_bitCount_0f7a4_26 (by decide) ?_
  refine lv_iushr hx hb dJ6_bitCount_0f7a4_27 rfl ?_
  refine lv_iadd hx hb dJ6_bitCount_0f7a4_28 ?_
  refine lv_ldcw (v := 252645135) hx hb hown (hts (.constant RJ6 267 (252645135)) (List.mem_of_getElem? (i := 3) rfl)) dJ6_bitCount_0f7a4_29 ?_
  refine lv_iand hx hb dJ6_bitCount_0f7a4_32 ?_
  refine lv_istore_n (lv' := [(0, .int (((((p1 - (((p1.toUInt32 >>> ((1 : Int32).toUInt32 &&& Int32.toUInt32 31)).toInt32) &&& 1431655765)) &&& 858993459) + ((((p1 - (((p1.toUInt32 >>> ((1 : Int32).toUInt32 &&& Int32.toUInt32 31)).toInt32) &&& 1431655765)).toUInt32 >>> ((2 : Int32).toUInt32 &&& Int32.toUInt32 31)).toInt32) &&& 858993459)) + (((((p1 - (((p1.toUInt32 >>> ((1 : Int32).toUInt32 &&& Int32.toUInt32 31)).toInt32) &&& 1431655765)) &&& 858993459) + ((((p1 - (((p1.toUInt32 >>> ((1 : Int32).toUInt32 &&& Int32.toUInt32 31)).toInt32) &&& 1431655765)).toUInt32 >>> ((2 : Int32).toUInt32 &&& Int32.toUInt32 31)).toInt32) &&& 858993459)).toUInt32 >>> ((4 : Int32).toUInt32 &&& Int32.toUInt32 31)).toInt32)) &&& 252645135))]) hx hb dJ6_bitCount_0f7a4_33 rfl hl (by decide) rfl (fun ls hl => ?_)
  refine lv_iload_n hx hb dJ6_bitCount_0f7a4_34 rfl (lv_at hl 0 rfl) ?_
  refine lv_iload_n hx hb dJ6_bitCount_0f7a4_35 rfl (lv_at hl 0 rfl) ?_
  refine lv_bipush (v := 8) hx hb dJ6_bitCount_0f7a4_36 (by decide) ?_
  refine lv_iushr hx hb dJ6_bitCount_0f7a4_38 rfl ?_
  refine lv_iadd hx hb dJ6_bitCount_0f7a4_39 ?_
  refine lv_istore_n (lv' := [(0, .int ((((((p1 - (((p1.toUInt32 >>> ((1 : Int32).toUInt32 &&& Int32.toUInt32 31)).toInt32) &&& 1431655765)) &&& 858993459) + ((((p1 - (((p1.toUInt32 >>> ((1 : Int32).toUInt32 &&& Int32.toUInt32 31)).toInt32) &&& 1431655765)).toUInt32 >>> ((2 : Int32).toUInt32 &&& Int32.toUInt32 31)).toInt32) &&& 858993459)) + (((((p1 - (((p1.toUInt32 >>> ((1 : Int32).toUInt32 &&& Int32.toUInt32 31)).toInt32) &&& 1431655765)) &&& 858993459) + ((((p1 - (((p1.toUInt32 >>> ((1 : Int32).toUInt32 &&& Int32.toUInt32 31)).toInt32) &&& 1431655765)).toUInt32 >>> ((2 : Int32).toUInt32 &&& Int32.toUInt32 31)).toInt32) &&& 858993459)).toUInt32 >>> ((4 : Int32).toUInt32 &&& Int32.toUInt32 31)).toInt32)) &&& 252645135) + (((((((p1 - (((p1.toUInt32 >>> ((1 : Int32).toUInt32 &&& Int32.toUInt32 31)).toInt32) &&& 1431655765)) &&& 858993459) + ((((p1 - (((p1.toUInt32 >>> ((1 : Int32).toUInt32 &&& Int32.toUInt32 31)).toInt32) &&& 1431655765)).toUInt32 >>> ((2 : Int32).toUInt32 &&& Int32.toUInt32 31)).toInt32) &&& 858993459)) + (((((p1 - (((p1.toUInt32 >>> ((1 : Int32).toUInt32 &&& Int32.toUInt32 31)).toInt32) &&& 1431655765)) &&& 858993459) + ((((p1 - (((p1.toUInt32 >>> ((1 : Int32).toUInt32 &&& Int32.toUInt32 31)).toInt32) &&& 1431655765)).toUInt32 >>> ((2 : Int32).toUInt32 &&& Int32.toUInt32 31)).toInt32) &&& 858993459)).toUInt32 >>> ((4 : Int32).toUInt32 &&& Int32.toUInt32 31)).toInt32)) &&& 252645135).toUInt32 >>> ((8 : Int32).toUInt32 &&& Int32.toUInt32 31)).toInt32)))]) hx hb dJ6_bitCount_0f7a4_40 rfl hl (by decide) rfl (fun ls hl => ?_)
  refine lv_iload_n hx hb dJ6_bitCount_0f7a4_41 rfl (lv_at hl 0 rfl) ?_
  refine lv_iload_n hx hb dJ6_bitCount_0f7a4_42 rfl (lv_at hl 0 rfl) ?_
  refine lv_bipush (v := 16) hx hb dJ6_bitCount_0f7a4_43 (by decide) ?_
  refine lv_iushr hx hb dJ6_bitCount_0f7a4_45 rfl ?_
  refine lv_iadd hx hb dJ6_bitCount_0f7a4_46 ?_
  refine lv_istore_n (lv' := [(0, .int (((((((p1 - (((p1.toUInt32 >>> ((1 : Int32).toUInt32 &&& Int32.toUInt32 31)).toInt32) &&& 1431655765)) &&& 858993459) + ((((p1 - (((p1.toUInt32 >>> ((1 : Int32).toUInt32 &&& Int32.toUInt32 31)).toInt32) &&& 1431655765)).toUInt32 >>> ((2 : Int32).toUInt32 &&& Int32.toUInt32 31)).toInt32) &&& 858993459)) + (((((p1 - (((p1.toUInt32 >>> ((1 : Int32).toUInt32 &&& Int32.toUInt32 31)).toInt32) &&& 1431655765)) &&& 858993459) + ((((p1 - (((p1.toUInt32 >>> ((1 : Int32).toUInt32 &&& Int32.toUInt32 31)).toInt32) &&& 1431655765)).toUInt32 >>> ((2 : Int32).toUInt32 &&& Int32.toUInt32 31)).toInt32) &&& 858993459)).toUInt32 >>> ((4 : Int32).toUInt32 &&& Int32.toUInt32 31)).toInt32)) &&& 252645135) + (((((((p1 - (((p1.toUInt32 >>> ((1 : Int32).toUInt32 &&& Int32.toUInt32 31)).toInt32) &&& 1431655765)) &&& 858993459) + ((((p1 - (((p1.toUInt32 >>> ((1 : Int32).toUInt32 &&& Int32.toUInt32 31)).toInt32) &&& 1431655765)).toUInt32 >>> ((2 : Int32).toUInt32 &&& Int32.toUInt32 31)).toInt32) &&& 858993459)) + (((((p1 - (((p1.toUInt32 >>> ((1 : Int32).toUInt32 &&& Int32.toUInt32 31)).toInt32) &&& 1431655765)) &&& 858993459) + ((((p1 - (((p1.toUInt32 >>> ((1 : Int32).toUInt32 &&& Int32.toUInt32 31)).toInt32) &&& 1431655765)).toUInt32 >>> ((2 : Int32).toUInt32 &&& Int32.toUInt32 31)).toInt32) &&& 858993459)).toUInt32 >>> ((4 : Int32).toUInt32 &&& Int32.toUInt32 31)).toInt32)) &&& 252645135).toUInt32 >>> ((8 : Int32).toUInt32 &&& Int32.toUInt32 31)).toInt32)) + ((((((((p1 - (((p1.toUInt32 >>> ((1 : Int32).toUInt32 &&& Int32.toUInt32 31)).toInt32) &&& 1431655765)) &&& 858993459) + ((((p1 - (((p1.toUInt32 >>> ((1 : Int32).toUInt32 &&& Int32.toUInt32 31)).toInt32) &&& 1431655765)).toUInt32 >>> ((2 : Int32).toUInt32 &&& Int32.toUInt32 31)).toInt32) &&& 858993459)) + (((((p1 - (((p1.toUInt32 >>> ((1 : Int32).toUInt32 &&& Int32.toUInt32 31)).toInt32) &&& 1431655765)) &&& 858993459) + ((((p1 - (((p1.toUInt32 >>> ((1 : Int32).toUInt32 &&& Int32.toUInt32 31)).toInt32) &&& 1431655765)).toUInt32 >>> ((2 : Int32).toUInt32 &&& Int32.toUInt32 31)).toInt32) &&& 858993459)).toUInt32 >>> ((4 : Int32).toUInt32 &&& Int32.toUInt32 31)).toInt32)) &&& 252645135) + (((((((p1 - (((p1.toUInt32 >>> ((1 : Int32).toUInt32 &&& Int32.toUInt32 31)).toInt32) &&& 1431655765)) &&& 858993459) + ((((p1 - (((p1.toUInt32 >>> ((1 : Int32).toUInt32 &&& Int32.toUInt32 31)).toInt32) &&& 1431655765)).toUInt32 >>> ((2 : Int32).toUInt32 &&& Int32.toUInt32 31)).toInt32) &&& 858993459)) + (((((p1 - (((p1.toUInt32 >>> ((1 : Int32).toUInt32 &&& Int32.toUInt32 31)).toInt32) &&& 1431655765)) &&& 858993459) + ((((p1 - (((p1.toUInt32 >>> ((1 : Int32).toUInt32 &&& Int32.toUInt32 31)).toInt32) &&& 1431655765)).toUInt32 >>> ((2 : Int32).toUInt32 &&& Int32.toUInt32 31)).toInt32) &&& 858993459)).toUInt32 >>> ((4 : Int32).toUInt32 &&& Int32.toUInt32 31)).toInt32)) &&& 252645135).toUInt32 >>> ((8 : Int32).toUInt32 &&& Int32.toUInt32 31)).toInt32)).toUInt32 >>> ((16 : Int32).toUInt32 &&& Int32.toUInt32 31)).toInt32)))]) hx hb dJ6_bitCount_0f7a4_47 rfl hl (by decide) rfl (fun ls hl => ?_)
  refine lv_iload_n hx hb dJ6_bitCount_0f7a4_48 rfl (lv_at hl 0 rfl) ?_
  refine lv_bipush (v := 63) hx hb dJ6_bitCount_0f7a4_49 (by decide) ?_
  refine lv_iand hx hb dJ6_bitCount_0f7a4_51 ?_
  exact W.iret (v := (((((((p1 - (((p1.toUInt32 >>> ((1 : Int32).toUInt32 &&& Int32.toUInt32 31)).toInt32) &&& 1431655765)) &&& 858993459) + ((((p1 - (((p1.toUInt32 >>> ((1 : Int32).toUInt32 &&& Int32.toUInt32 31)).toInt32) &&& 1431655765)).toUInt32 >>> ((2 : Int32).toUInt32 &&& Int32.toUInt32 31)).toInt32) &&& 858993459)) + (((((p1 - (((p1.toUInt32 >>> ((1 : Int32).toUInt32 &&& Int32.toUInt32 31)).toInt32) &&& 1431655765)) &&& 858993459) + ((((p1 - (((p1.toUInt32 >>> ((1 : Int32).toUInt32 &&& Int32.toUInt32 31)).toInt32) &&& 1431655765)).toUInt32 >>> ((2 : Int32).toUInt32 &&& Int32.toUInt32 31)).toInt32) &&& 858993459)).toUInt32 >>> ((4 : Int32).toUInt32 &&& Int32.toUInt32 31)).toInt32)) &&& 252645135) + (((((((p1 - (((p1.toUInt32 >>> ((1 : Int32).toUInt32 &&& Int32.toUInt32 31)).toInt32) &&& 1431655765)) &&& 858993459) + ((((p1 - (((p1.toUInt32 >>> ((1 : Int32).toUInt32 &&& Int32.toUInt32 31)).toInt32) &&& 1431655765)).toUInt32 >>> ((2 : Int32).toUInt32 &&& Int32.toUInt32 31)).toInt32) &&& 858993459)) + (((((p1 - (((p1.toUInt32 >>> ((1 : Int32).toUInt32 &&& Int32.toUInt32 31)).toInt32) &&& 1431655765)) &&& 858993459) + ((((p1 - (((p1.toUInt32 >>> ((1 : Int32).toUInt32 &&& Int32.toUInt32 31)).toInt32) &&& 1431655765)).toUInt32 >>> ((2 : Int32).toUInt32 &&& Int32.toUInt32 31)).toInt32) &&& 858993459)).toUInt32 >>> ((4 : Int32).toUInt32 &&& Int32.toUInt32 31)).toInt32)) &&& 252645135).toUInt32 >>> ((8 : Int32).toUInt32 &&& Int32.toUInt32 31)).toInt32)) + ((((((((p1 - (((p1.toUInt32 >>> ((1 : Int32).toUInt32 &&& Int32.toUInt32 31)).toInt32) &&& 1431655765)) &&& 858993459) + ((((p1 - (((p1.toUInt32 >>> ((1 : Int32).toUInt32 &&& Int32.toUInt32 31)).toInt32) &&& 1431655765)).toUInt32 >>> ((2 : Int32).toUInt32 &&& Int32.toUInt32 31)).toInt32) &&& 858993459)) + (((((p1 - (((p1.toUInt32 >>> ((1 : Int32).toUInt32 &&& Int32.toUInt32 31)).toInt32) &&& 1431655765)) &&& 858993459) + ((((p1 - (((p1.toUInt32 >>> ((1 : Int32).toUInt32 &&& Int32.toUInt32 31)).toInt32) &&& 1431655765)).toUInt32 >>> ((2 : Int32).toUInt32 &&& Int32.toUInt32 31)).toInt32) &&& 858993459)).toUInt32 >>> ((4 : Int32).toUInt32 &&& Int32.toUInt32 31)).toInt32)) &&& 252645135) + (((((((p1 - (((p1.toUInt32 >>> ((1 : Int32).toUInt32 &&& Int32.toUInt32 31)).toInt32) &&& 1431655765)) &&& 858993459) + ((((p1 - (((p1.toUInt32 >>> ((1 : Int32).toUInt32 &&& Int32.toUInt32 31)).toInt32) &&& 1431655765)).toUInt32 >>> ((2 : Int32).toUInt32 &&& Int32.toUInt32 31)).toInt32) &&& 858993459)) + (((((p1 - (((p1.toUInt32 >>> ((1 : Int32).toUInt32 &&& Int32.toUInt32 31)).toInt32) &&& 1431655765)) &&& 858993459) + ((((p1 - (((p1.toUInt32 >>> ((1 : Int32).toUInt32 &&& Int32.toUInt32 31)).toInt32) &&& 1431655765)).toUInt32 >>> ((2 : Int32).toUInt32 &&& Int32.toUInt32 31)).toInt32) &&& 858993459)).toUInt32 >>> ((4 : Int32).toUInt32 &&& Int32.toUInt32 31)).toInt32)) &&& 252645135).toUInt32 >>> ((8 : Int32).toUInt32 &&& Int32.toUInt32 31)).toInt32)).toUInt32 >>> ((16 : Int32).toUInt32 &&& Int32.toUInt32 31)).toInt32)) &&& 63) hx hb hr (fun t ht hWw => ⟨⟨(((((((p1 - (((p1.toUInt32 >>> ((1 : Int32).toUInt32 &&& Int32.toUInt32 31)).toInt32) &&& 1431655765)) &&& 858993459) + ((((p1 - (((p1.toUInt32 >>> ((1 : Int32).toUInt32 &&& Int32.toUInt32 31)).toInt32) &&& 1431655765)).toUInt32 >>> ((2 : Int32).toUInt32 &&& Int32.toUInt32 31)).toInt32) &&& 858993459)) + (((((p1 - (((p1.toUInt32 >>> ((1 : Int32).toUInt32 &&& Int32.toUInt32 31)).toInt32) &&& 1431655765)) &&& 858993459) + ((((p1 - (((p1.toUInt32 >>> ((1 : Int32).toUInt32 &&& Int32.toUInt32 31)).toInt32) &&& 1431655765)).toUInt32 >>> ((2 : Int32).toUInt32 &&& Int32.toUInt32 31)).toInt32) &&& 858993459)).toUInt32 >>> ((4 : Int32).toUInt32 &&& Int32.toUInt32 31)).toInt32)) &&& 252645135) + (((((((p1 - (((p1.toUInt32 >>> ((1 : Int32).toUInt32 &&& Int32.toUInt32 31)).toInt32) &&& 1431655765)) &&& 858993459) + ((((p1 - (((p1.toUInt32 >>> ((1 : Int32).toUInt32 &&& Int32.toUInt32 31)).toInt32) &&& 1431655765)).toUInt32 >>> ((2 : Int32).toUInt32 &&& Int32.toUInt32 31)).toInt32) &&& 858993459)) + (((((p1 - (((p1.toUInt32 >>> ((1 : Int32).toUInt32 &&& Int32.toUInt32 31)).toInt32) &&& 1431655765)) &&& 858993459) + ((((p1 - (((p1.toUInt32 >>> ((1 : Int32).toUInt32 &&& Int32.toUInt32 31)).toInt32) &&& 1431655765)).toUInt32 >>> ((2 : Int32).toUInt32 &&& Int32.toUInt32 31)).toInt32) &&& 858993459)).toUInt32 >>> ((4 : Int32).toUInt32 &&& Int32.toUInt32 31)).toInt32)) &&& 252645135).toUInt32 >>> ((8 : Int32).toUInt32 &&& Int32.toUInt32 31)).toInt32)) + ((((((((p1 - (((p1.toUInt32 >>> ((1 : Int32).toUInt32 &&& Int32.toUInt32 31)).toInt32) &&& 1431655765)) &&& 858993459) + ((((p1 - (((p1.toUInt32 >>> ((1 : Int32).toUInt32 &&& Int32.toUInt32 31)).toInt32) &&& 1431655765)).toUInt32 >>> ((2 : Int32).toUInt32 &&& Int32.toUInt32 31)).toInt32) &&& 858993459)) + (((((p1 - (((p1.toUInt32 >>> ((1 : Int32).toUInt32 &&& Int32.toUInt32 31)).toInt32) &&& 1431655765)) &&& 858993459) + ((((p1 - (((p1.toUInt32 >>> ((1 : Int32).toUInt32 &&& Int32.toUInt32 31)).toInt32) &&& 1431655765)).toUInt32 >>> ((2 : Int32).toUInt32 &&& Int32.toUInt32 31)).toInt32) &&& 858993459)).toUInt32 >>> ((4 : Int32).toUInt32 &&& Int32.toUInt32 31)).toInt32)) &&& 252645135) + (((((((p1 - (((p1.toUInt32 >>> ((1 : Int32).toUInt32 &&& Int32.toUInt32 31)).toInt32) &&& 1431655765)) &&& 858993459) + ((((p1 - (((p1.toUInt32 >>> ((1 : Int32).toUInt32 &&& Int32.toUInt32 31)).toInt32) &&& 1431655765)).toUInt32 >>> ((2 : Int32).toUInt32 &&& Int32.toUInt32 31)).toInt32) &&& 858993459)) + (((((p1 - (((p1.toUInt32 >>> ((1 : Int32).toUInt32 &&& Int32.toUInt32 31)).toInt32) &&& 1431655765)) &&& 858993459) + ((((p1 - (((p1.toUInt32 >>> ((1 : Int32).toUInt32 &&& Int32.toUInt32 31)).toInt32) &&& 1431655765)).toUInt32 >>> ((2 : Int32).toUInt32 &&& Int32.toUInt32 31)).toInt32) &&& 858993459)).toUInt32 >>> ((4 : Int32).toUInt32 &&& Int32.toUInt32 31)).toInt32)) &&& 252645135).toUInt32 >>> ((8 : Int32).toUInt32 &&& Int32.toUInt32 31)).toInt32)).toUInt32 >>> ((16 : Int32).toUInt32 &&& Int32.toUInt32 31)).toInt32)) &&& 63, (), rfl, hR.symm.trans eR, trivial⟩, hS.F ht⟩) hS.2.2 dJ6_bitCount_0f7a4_52
abbrev rm_X5_setChannel : Room := { frames := 4, cells := 0, slots := 0, locals := 81 }
def f_X5_setChannel (G : GR) (p1 : Int32) (p2 : Int32) (p3 : Int32) : Int32 × GR := (if (f_X5_isBelow p1 12) = 0 then ((-1), G) else (if (f_X5_isBelow p2 5) = 0 then ((-1), G) else (if (f_X5_isWithin p3 0 (chI p2.toNatClampNeg)) = 0 then ((-1), G) else sLet ((f_X1_keep G)) (fun Gn16 : GR => sLet (va_up Gn16 0 (f_X4_setChannelByHand (Gn16 0) p1 p2 p3)) (fun Gn23 : GR => (f_X4_channelProperty (Gn16 0) p1 p2, Gn23))))))
set_option maxHeartbeats 4000000 in
set_option maxRecDepth 100000 in
theorem c_X5_setChannel (l : Launch) (dC : Nat → ClassId) (dI : Nat → Nat → Nat) (cI cC cS : ClassId) (a : Nat → Nat) (G : GR) (sz : Nat) (p1 : Int32) (p2 : Int32) (p3 : Int32) (hG : WFG G) : Met l yX5_setChannel wsX5_setChannel rm_X5_setChannel (PcS (dC, dI) (tyL cI cC cS) (cDk a cI cC cS G) sz [.ref (a 0), .int p1, .int p2, .int p3] (va_A (cDk a cI cC cS G) sz)) (va_Qi (fun (r : Int32) (u : GR) => (r, u) = f_X5_setChannel G p1 p2 p3 ∧ (WFG u)) (fun u U => va_P (dC, dI) vwCl (cDk a cI cC cS u) U.heap ∧ va_D (va_A (cDk a cI cC cS G) sz) (cDk a cI cC cS u)) (va_A (cDk a cI cC cS G) sz)) 0 0 (va_A (cDk a cI cC cS G) sz) := by
  refine Met.ofW (cc := cX5_setChannel) (maxL := 5) (ret := (some .int)) (by decide) rfl ?_
  intro p e s m args below meth c s₁ B hml hv
  obtain ⟨rfl, hsz, hP, hK, hD0, hN, hT⟩ := hv
  have hx := B.exec
  have hb := B.bytes
  have hr := B.returns
  have hts := atoms_spec (ws := wsX5_setChannel) B.pre
  have hown : s.vm.findClass RX5 = some m.cls := findClass_of_methodNamed B.named
  have hlocks := B.notSynchronized
  subst hsz
  obtain ⟨⟨tc, hZc, hTc⟩, ⟨tg, hZg, hTg⟩, ⟨ks, kv, hSk, hSr⟩⟩ := id hT
  have hD := hD0.self (sz := s.heap.size)
  have hA : ∀ q : Nat, s.heap.size ≤ q → (va_A (cDk a cI cC cS G) s.heap.size) q := fun q h => Or.inr h
  have hS : va_S (va_A (cDk a cI cC cS G) s.heap.size) s.heap s.heap [] := va_S.rf
  have hin5 : ∀ w ∈ wsX50, w ∈ wsX5_setChannel := fun _ h => List.mem_cons_of_mem _ (List.mem_append_left _ (List.mem_append_left _ (List.mem_append_left _ (List.mem_append_right _ h))))
  have hl := lv_entry [.ref (a 0), .int p1, .int p2, .int p3] (n := 5) (Nat.le_of_ble_eq_true rfl)
  rw [lg_entry_eq]
  generalize (lg_sl [.ref (a 0), .int p1, .int p2, .int p3] ++ List.replicate (5 - (lg_sl [.ref (a 0), .int p1, .int p2, .int p3]).length) Slot.unset).toArray = ls at hl ⊢
  have hl : lv_has ls 5 [(0, .ref (a 0)), (1, .int p1), (2, .int p2), (3, .int p3)] := hl
  obtain ⟨R0, eR⟩ : ∃ z, z = f_X5_setChannel G p1 p2 p3 := ⟨_, rfl⟩
  have hR := eR
  rw [f_X5_setChannel] at hR
  refine lv_iload_n hx hb dX5_setChannel_0 rfl (lv_at hl 1 rfl) ?_
  refine lv_bipush (v := 12) hx hb dX5_setChannel_1 (by decide) ?_
  have hFc : ∀ q : Nat, va_A [] s.heap.size q → (va_A (cDk a cI cC cS G) s.heap.size) q := roF hS hA
  refine va_calli (va_runS (As := [.int p1, .int 12]) (rest := []) ⟨hx, hb, hml, hown, hts⟩ (c_X5_isBelow l dC dI cI cC cS s.heap.size p1 12) (va_cwS 2 hts gX5_setChannel_X5_isBelow rfl rfl rfl (by decide +kernel) ⟨Nat.le_of_ble_eq_true rfl, Nat.le_of_ble_eq_true rfl⟩) (pS hK (va_P_nil) (va_D_nil) hN) rfl rfl hl.1 rfl (lv_room (Nat.le_of_ble_eq_true rfl)) dX5_setChannel_3 ⟨Nat.le_of_ble_eq_true rfl, Nat.le_of_ble_eq_true rfl⟩) hS (fun q _ h => hFc q h) hFc (fun r_1 u_1 t_1 H2 locs ht hvm hw hB hz1 hk1 hS => ?_)
  obtain ⟨hw, hre3⟩ := hw
  subst hw
  have hP := ro_keep hP hk1
  refine lv_if_eq (tgt := 20) hx hb dX5_setChannel_6 (by decide) (fun c4 => ?_) (fun c4 => ?_)
  · rw [if_pos c4] at hR
    refine lv_iconst (v := (-1)) hx hb dX5_setChannel_20 (by decide) ?_
    exact W.iret (v := (-1)) hx hb hr (fun t ht hWw => ⟨⟨(-1), G, rfl, ⟨hR.symm.trans eR, hG⟩, by rw [ht]; exact hP, hD⟩, hS.F ht⟩) hS.2.2 dX5_setChannel_21
  · rw [if_neg c4] at hR
    refine lv_iload_n hx hb dX5_setChannel_9 rfl (lv_at hl 2 rfl) ?_
    refine va_gets hx hb hZc hS hown (hts (.fieldLink RX5 46 "FeedDesk" "CHANNEL_MOST" "[I") (List.mem_of_getElem? (i := 1) rfl)) (fun _ h9 => h9) dX5_setChannel_10 ?_
    refine va_tlen (v := 5) hx hb hTc hS (by decide +kernel) dX5_setChannel_13 ?_
    have hFc : ∀ q : Nat, va_A [] H2.size q → (va_A (cDk a cI cC cS G) s.heap.size) q := roF hS hA
    refine va_calli (va_runS (As := [.int p2, .int 5]) (rest := []) ⟨hx, hb, hml, hown, hts⟩ (c_X5_isBelow l dC dI cI cC cS H2.size p2 5) (va_cwS 2 hts gX5_setChannel_X5_isBelow rfl rfl rfl (by decide +kernel) ⟨Nat.le_of_ble_eq_true rfl, Nat.le_of_ble_eq_true rfl⟩) (pS hK (va_P_nil) (va_D_nil) hN) rfl rfl hl.1 rfl (lv_room (Nat.le_of_ble_eq_true rfl)) dX5_setChannel_14 ⟨Nat.le_of_ble_eq_true rfl, Nat.le_of_ble_eq_true rfl⟩) hS (fun q _ h => hFc q h) hFc (fun r_5 u_5 t_5 H6 locs ht hvm hw hB hz1 hk1 hS => ?_)
    obtain ⟨hw, hre7⟩ := hw
    subst hw
    have hP := ro_keep hP hk1
    refine lv_if_ne (tgt := 22) hx hb dX5_setChannel_17 (by decide) (fun c8 => ?_) (fun c8 => ?_)
    · rw [if_neg c8] at hR
      refine lv_iload_n hx hb dX5_setChannel_22 rfl (lv_at hl 3 rfl) ?_
      refine lv_iconst (v := 0) hx hb dX5_setChannel_23 (by decide) ?_
      refine va_gets hx hb hZc hS hown (hts (.fieldLink RX5 46 "FeedDesk" "CHANNEL_MOST" "[I") (List.mem_of_getElem? (i := 1) rfl)) (fun _ h9 => h9) dX5_setChannel_24 ?_
      refine lv_iload_n hx hb dX5_setChannel_27 rfl (lv_at hl 2 rfl) ?_
      refine va_ti (v := .int (chI p2.toNatClampNeg)) hx hb hTc hS (below_vp (n := 5) c8) rfl dX5_setChannel_28 ?_
      have hFc : ∀ q : Nat, va_A [] H6.size q → (va_A (cDk a cI cC cS G) s.heap.size) q := roF hS hA
      refine va_calli (va_runS (As := [.int p3, .int 0, .int (chI p2.toNatClampNeg)]) (rest := []) ⟨hx, hb, hml, hown, hts⟩ (c_X5_isWithin l dC dI cI cC cS H6.size p3 0 (chI p2.toNatClampNeg)) (va_cwS 3 hts gX5_setChannel_X5_isWithin rfl rfl rfl (by decide +kernel) ⟨Nat.le_of_ble_eq_true rfl, Nat.le_of_ble_eq_true rfl⟩) (pS hK (va_P_nil) (va_D_nil) hN) rfl rfl hl.1 rfl (lv_room (Nat.le_of_ble_eq_true rfl)) dX5_setChannel_29 ⟨Nat.le_of_ble_eq_true rfl, Nat.le_of_ble_eq_true rfl⟩) hS (fun q _ h => hFc q h) hFc (fun r_9 u_9 t_9 H10 locs ht hvm hw hB hz1 hk1 hS => ?_)
      obtain ⟨hw, hre11⟩ := hw
      subst hw
      have hP := ro_keep hP hk1
      refine lv_if_ne (tgt := 37) hx hb dX5_setChannel_32 (by decide) (fun c12 => ?_) (fun c12 => ?_)
      · rw [if_neg c12] at hR
        refine lv_aload_n hx hb dX5_setChannel_37 rfl (lv_at hl 0 rfl) ?_
        refine va_get (D := (dC, dI)) (ci := 5) (v := .ref (a 25)) (C := RX5) (T := TX5) (N := 5) hx hb hts hin5 hown hK hP 0 rfl rfl 2 (by decide) (hts (.fieldLink RX5 22 "FeedDesk" "history" "LFeedDesk$History;") (List.mem_of_getElem? (i := 2) rfl)) (fun _ h9 => h9) rfl dX5_setChannel_38 ?_
        refine lv_aload_n hx hb dX5_setChannel_41 rfl (lv_at hl 0 rfl) ?_
        refine va_get (D := (dC, dI)) (ci := 5) (v := .ref (a 1)) (C := RX5) (T := TX5) (N := 5) hx hb hts hin5 hown hK hP 0 rfl rfl 0 (by decide) (hts (.fieldLink RX5 12 "FeedDesk" "now" "LFeedDesk$State;") (List.mem_of_getElem? (i := 3) rfl)) (fun _ h9 => h9) rfl dX5_setChannel_42 ?_
        have hPc : va_P (dC, dI) vwCl (cDk a cI cC cS G) H10 := hP.sub [0, 1, 2, 3, 4, 5, 6, 7, 8, 9, 10, 11, 12, 13, 14, 15, 16, 17, 18, 19, 20, 21, 22, 23, 24, 25, 26, 27, 28, 29, 30, 31, 32, 33, 34, 35, 36, 37, 38, 39, 40, 41, 42, 43, 44, 45, 46, 47, 48, 49, 50, 51, 52, 53, 54, 55, 56, 57, 58, 59, 60, 61, 62, 63, 64, 65, 66, 67, 68, 69, 70, 71, 72, 73, 74, 75, 76, 77, 78, 79, 80, 81, 82, 83, 84, 85, 86, 87, 88, 89, 90, 91, 92] rfl
        have hDc : va_D (va_A (cDk a cI cC cS G) s.heap.size) (cDk a cI cC cS G) := hD.sub [0, 1, 2, 3, 4, 5, 6, 7, 8, 9, 10, 11, 12, 13, 14, 15, 16, 17, 18, 19, 20, 21, 22, 23, 24, 25, 26, 27, 28, 29, 30, 31, 32, 33, 34, 35, 36, 37, 38, 39, 40, 41, 42, 43, 44, 45, 46, 47, 48, 49, 50, 51, 52, 53, 54, 55, 56, 57, 58, 59, 60, 61, 62, 63, 64, 65, 66, 67, 68, 69, 70, 71, 72, 73, 74, 75, 76, 77, 78, 79, 80, 81, 82, 83, 84, 85, 86, 87, 88, 89, 90, 91, 92] (by decide) rfl
        have hFc : ∀ q : Nat, va_A (cDk a cI cC cS G) H10.size q → (va_A (cDk a cI cC cS G) s.heap.size) q := va_free hD hS hA [0, 1, 2, 3, 4, 5, 6, 7, 8, 9, 10, 11, 12, 13, 14, 15, 16, 17, 18, 19, 20, 21, 22, 23, 24, 25, 26, 27, 28, 29, 30, 31, 32, 33, 34, 35, 36, 37, 38, 39, 40, 41, 42, 43, 44, 45, 46, 47, 48, 49, 50, 51, 52, 53, 54, 55, 56, 57, 58, 59, 60, 61, 62, 63, 64, 65, 66, 67, 68, 69, 70, 71, 72, 73, 74, 75, 76, 77, 78, 79, 80, 81, 82, 83, 84, 85, 86, 87, 88, 89, 90, 91, 92] rfl
        refine va_callv (va_runV (As := [.ref (a 1)]) (rest := []) ⟨hx, hb, hml, hown, hts⟩ (c_X1_keep l dC dI cI cC cS a G H10.size hG) (cwV 1 hts gX5_setChannel_X1_keep rfl rfl rfl (by decide +kernel) ⟨Nat.le_of_ble_eq_true rfl, Nat.le_of_ble_eq_true rfl⟩) (pV (q0 := 25) hK hPc hDc hN rfl rfl) rfl rfl hl.1 rfl (lv_room (Nat.le_of_ble_eq_true rfl)) dX5_setChannel_45 ⟨Nat.le_of_ble_eq_true rfl, Nat.le_of_ble_eq_true rfl⟩) hS (fun q _ h => hFc q h) hFc (fun u_13 t_13 H14 locs ht hvm hw hB hz1 hk1 hS => ?_)
        obtain ⟨hw, hens15⟩ := hw
        obtain ⟨hP1, hD1⟩ := hB
        rw [ht] at hP1
        subst hw
        obtain ⟨hP, hD⟩ := va_join (wc := cDk a cI cC cS G) (wr := []) (w1 := cDk a cI cC cS (f_X1_keep G)) hP hD [0, 1, 2, 3, 4, 5, 6, 7, 8, 9, 10, 11, 12, 13, 14, 15, 16, 17, 18, 19, 20, 21, 22, 23, 24, 25, 26, 27, 28, 29, 30, 31, 32, 33, 34, 35, 36, 37, 38, 39, 40, 41, 42, 43, 44, 45, 46, 47, 48, 49, 50, 51, 52, 53, 54, 55, 56, 57, 58, 59, 60, 61, 62, 63, 64, 65, 66, 67, 68, 69, 70, 71, 72, 73, 74, 75, 76, 77, 78, 79, 80, 81, 82, 83, 84, 85, 86, 87, 88, 89, 90, 91, 92] [] rfl rfl (by decide) (by decide) hk1 hFc hP1 hD1
        have hP : va_P (dC, dI) vwCl (cDk a cI cC cS (f_X1_keep G)) H14 := hP.sub [0, 1, 2, 3, 4, 5, 6, 7, 8, 9, 10, 11, 12, 13, 14, 15, 16, 17, 18, 19, 20, 21, 22, 23, 24, 25, 26, 27, 28, 29, 30, 31, 32, 33, 34, 35, 36, 37, 38, 39, 40, 41, 42, 43, 44, 45, 46, 47, 48, 49, 50, 51, 52, 53, 54, 55, 56, 57, 58, 59, 60, 61, 62, 63, 64, 65, 66, 67, 68, 69, 70, 71, 72, 73, 74, 75, 76, 77, 78, 79, 80, 81, 82, 83, 84, 85, 86, 87, 88, 89, 90, 91, 92] rfl
        have hD : va_D (va_A (cDk a cI cC cS G) s.heap.size) (cDk a cI cC cS (f_X1_keep G)) := hD.sub [0, 1, 2, 3, 4, 5, 6, 7, 8, 9, 10, 11, 12, 13, 14, 15, 16, 17, 18, 19, 20, 21, 22, 23, 24, 25, 26, 27, 28, 29, 30, 31, 32, 33, 34, 35, 36, 37, 38, 39, 40, 41, 42, 43, 44, 45, 46, 47, 48, 49, 50, 51, 52, 53, 54, 55, 56, 57, 58, 59, 60, 61, 62, 63, 64, 65, 66, 67, 68, 69, 70, 71, 72, 73, 74, 75, 76, 77, 78, 79, 80, 81, 82, 83, 84, 85, 86, 87, 88, 89, 90, 91, 92] (by decide) rfl
        obtain ⟨Gn16, eGn16⟩ : ∃ z : GR, z = (f_X1_keep G) := ⟨_, rfl⟩
        rw [sLet_eq, ← eGn16] at hR
        rw [← eGn16] at hP hD
        have hG17 : WFG Gn16 := by rw [eGn16]; exact hens15
        refine lv_aload_n hx hb dX5_setChannel_48 rfl (lv_at hl 0 rfl) ?_
        refine va_get (D := (dC, dI)) (ci := 5) (v := .ref (a 1)) (C := RX5) (T := TX5) (N := 5) hx hb hts hin5 hown hK hP 0 rfl rfl 0 (by decide) (hts (.fieldLink RX5 12 "FeedDesk" "now" "LFeedDesk$State;") (List.mem_of_getElem? (i := 3) rfl)) (fun _ h9 => h9) rfl dX5_setChannel_49 ?_
        refine lv_iload_n hx hb dX5_setChannel_52 rfl (lv_at hl 1 rfl) ?_
        refine lv_iload_n hx hb dX5_setChannel_53 rfl (lv_at hl 2 rfl) ?_
        have hPc : va_P (dC, dI) vwCl (cSt (fun j => a (1 + j)) cI (Gn16 0)) H14 := hP.sub [1, 2, 3, 4, 5, 6, 7, 8, 9, 10, 11, 12] rfl
        have hDc : va_D (va_A (cDk a cI cC cS G) s.heap.size) (cSt (fun j => a (1 + j)) cI (Gn16 0)) := hD.sub [1, 2, 3, 4, 5, 6, 7, 8, 9, 10, 11, 12] (by decide) rfl
        have hFc : ∀ q : Nat, va_A [] H14.size q → (va_A (cDk a cI cC cS G) s.heap.size) q := roF hS hA
        refine va_calli (va_runV (As := [.int p1, .int p2]) (rest := []) ⟨hx, hb, hml, hown, hts⟩ (c_X4_channelProperty l dC dI cI cC cS (fun j => a (1 + j)) (Gn16 0) H14.size p1 p2 (below_vp (n := 12) c4)) (cwV 2 hts gX5_setChannel_X4_channelProperty rfl rfl rfl (by decide +kernel) ⟨Nat.le_of_ble_eq_true rfl, Nat.le_of_ble_eq_true rfl⟩) (pV (q0 := 0) hK hPc hDc hN rfl rfl) rfl rfl hl.1 rfl (lv_room (Nat.le_of_ble_eq_true rfl)) dX5_setChannel_54 ⟨Nat.le_of_ble_eq_true rfl, Nat.le_of_ble_eq_true rfl⟩) hS (fun q _ h => hFc q h) hFc (fun r_18 u_18 t_18 H19 locs ht hvm hw hB hz1 hk1 hS => ?_)
        subst hw
        have hP := ro_keep hP hk1
        refine lv_istore (lv' := [(4, .int (f_X4_channelProperty (Gn16 0) p1 p2)), (0, .ref (a 0)), (1, .int p1), (2, .int p2), (3, .int p3)]) hx hb dX5_setChannel_57 hl (by decide) rfl (fun ls hl => ?_)
        refine lv_aload_n hx hb dX5_setChannel_59 rfl (lv_at hl 1 rfl) ?_
        refine va_get (D := (dC, dI)) (ci := 5) (v := .ref (a 1)) (C := RX5) (T := TX5) (N := 5) hx hb hts hin5 hown hK hP 0 rfl rfl 0 (by decide) (hts (.fieldLink RX5 12 "FeedDesk" "now" "LFeedDesk$State;") (List.mem_of_getElem? (i := 3) rfl)) (fun _ h9 => h9) rfl dX5_setChannel_60 ?_
        refine lv_iload_n hx hb dX5_setChannel_63 rfl (lv_at hl 2 rfl) ?_
        refine lv_iload_n hx hb dX5_setChannel_64 rfl (lv_at hl 3 rfl) ?_
        refine lv_iload_n hx hb dX5_setChannel_65 rfl (lv_at hl 4 rfl) ?_
        have hPc : va_P (dC, dI) vwCl (cSt (fun j => a (1 + j)) cI (Gn16 0)) H19 := hP.sub [1, 2, 3, 4, 5, 6, 7, 8, 9, 10, 11, 12] rfl
        have hDc : va_D (va_A (cDk a cI cC cS G) s.heap.size) (cSt (fun j => a (1 + j)) cI (Gn16 0)) := hD.sub [1, 2, 3, 4, 5, 6, 7, 8, 9, 10, 11, 12] (by decide) rfl
        have hFc : ∀ q : Nat, va_A (cSt (fun j => a (1 + j)) cI (Gn16 0)) H19.size q → (va_A (cDk a cI cC cS G) s.heap.size) q := va_free hD hS hA [1, 2, 3, 4, 5, 6, 7, 8, 9, 10, 11, 12] rfl
        refine va_callv (va_runV (As := [.int p1, .int p2, .int p3]) (rest := []) ⟨hx, hb, hml, hown, hts⟩ (c_X4_setChannelByHand l dC dI cI cC cS (fun j => a (1 + j)) (Gn16 0) H19.size p1 p2 p3 (below_vp (n := 12) c4) (hG17.1 0 (by decide))) (cwV 3 hts gX5_setChannel_X4_setChannelByHand rfl rfl rfl (by decide +kernel) ⟨Nat.le_of_ble_eq_true rfl, Nat.le_of_ble_eq_true rfl⟩) (pV (q0 := 0) hK hPc hDc hN rfl rfl) rfl rfl hl.1 rfl (lv_room (Nat.le_of_ble_eq_true rfl)) dX5_setChannel_66 ⟨Nat.le_of_ble_eq_true rfl, Nat.le_of_ble_eq_true rfl⟩) hS (fun q _ h => hFc q h) hFc (fun u_20 t_20 H21 locs ht hvm hw hB hz1 hk1 hS => ?_)
        obtain ⟨hw, hens22⟩ := hw
        obtain ⟨hP1, hD1⟩ := hB
        rw [ht] at hP1
        subst hw
        obtain ⟨hP, hD⟩ := va_join (wc := cSt (fun j => a (1 + j)) cI (Gn16 0)) (wr := [(a 0, .inr (5, [.ref (a 1), .ref (a 13), .ref (a 25), .ref (a 87), .ref (a 91)])), (a 13, .inr (4, [.ref (a 14), .ref (a 15), .ref (a 16), .int ((Gn16 1) 10 0), .int ((Gn16 1) 10 1), .int ((Gn16 1) 10 2), .ref (a 17), .ref (a 18), .ref (a 19), .ref (a 20), .ref (a 21), .int ((Gn16 1) 10 3), .int ((Gn16 1) 10 4), .int ((Gn16 1) 10 5), .int ((Gn16 1) 10 6), .ref (a 22), .int ((Gn16 1) 10 7), .ref (a 23)])), (a 14, .inl (cI, 12, .inl ((Gn16 1) 0))), (a 15, .inl (cI, 16, .inl ((Gn16 1) 1))), (a 16, .inl (cI, 12, .inl ((Gn16 1) 2))), (a 17, .inl (cI, 48, .inl ((Gn16 1) 3))), (a 18, .inl (cI, 4, .inl ((Gn16 1) 4))), (a 19, .inl (cI, 4, .inl ((Gn16 1) 5))), (a 20, .inl (cI, 12, .inl ((Gn16 1) 6))), (a 21, .inl (cI, 4, .inl ((Gn16 1) 7))), (a 22, .inl (cI, 102, .inl ((Gn16 1) 8))), (a 23, .inr (0, [.int ((Gn16 1) 11 0), .int ((Gn16 1) 11 1), .int ((Gn16 1) 11 2), .int ((Gn16 1) 11 3), .ref (a 24)])), (a 24, .inl (cI, 16, .inl ((Gn16 1) 9))), (a 25, .inr (1, [.ref (a 26), .int ((Gn16 7) 0 0), .int ((Gn16 7) 0 1)])), (a 26, .inl (cS, 5, .inr (.inr (.inr (.inr (kf a)))))), (a 27, .inr (4, [.ref (a 28), .ref (a 29), .ref (a 30), .int ((Gn16 2) 10 0), .int ((Gn16 2) 10 1), .int ((Gn16 2) 10 2), .ref (a 31), .ref (a 32), .ref (a 33), .ref (a 34), .ref (a 35), .int ((Gn16 2) 10 3), .int ((Gn16 2) 10 4), .int ((Gn16 2) 10 5), .int ((Gn16 2) 10 6), .ref (a 36), .int ((Gn16 2) 10 7), .ref (a 37)])), (a 28, .inl (cI, 12, .inl ((Gn16 2) 0))), (a 29, .inl (cI, 16, .inl ((Gn16 2) 1))), (a 30, .inl (cI, 12, .inl ((Gn16 2) 2))), (a 31, .inl (cI, 48, .inl ((Gn16 2) 3))), (a 32, .inl (cI, 4, .inl ((Gn16 2) 4))), (a 33, .inl (cI, 4, .inl ((Gn16 2) 5))), (a 34, .inl (cI, 12, .inl ((Gn16 2) 6))), (a 35, .inl (cI, 4, .inl ((Gn16 2) 7))), (a 36, .inl (cI, 102, .inl ((Gn16 2) 8))), (a 37, .inr (0, [.int ((Gn16 2) 11 0), .int ((Gn16 2) 11 1), .int ((Gn16 2) 11 2), .int ((Gn16 2) 11 3), .ref (a 38)])), (a 38, .inl (cI, 16, .inl ((Gn16 2) 9))), (a 39, .inr (4, [.ref (a 40), .ref (a 41), .ref (a 42), .int ((Gn16 3) 10 0), .int ((Gn16 3) 10 1), .int ((Gn16 3) 10 2), .ref (a 43), .ref (a 44), .ref (a 45), .ref (a 46), .ref (a 47), .int ((Gn16 3) 10 3), .int ((Gn16 3) 10 4), .int ((Gn16 3) 10 5), .int ((Gn16 3) 10 6), .ref (a 48), .int ((Gn16 3) 10 7), .ref (a 49)])), (a 40, .inl (cI, 12, .inl ((Gn16 3) 0))), (a 41, .inl (cI, 16, .inl ((Gn16 3) 1))), (a 42, .inl (cI, 12, .inl ((Gn16 3) 2))), (a 43, .inl (cI, 48, .inl ((Gn16 3) 3))), (a 44, .inl (cI, 4, .inl ((Gn16 3) 4))), (a 45, .inl (cI, 4, .inl ((Gn16 3) 5))), (a 46, .inl (cI, 12, .inl ((Gn16 3) 6))), (a 47, .inl (cI, 4, .inl ((Gn16 3) 7))), (a 48, .inl (cI, 102, .inl ((Gn16 3) 8))), (a 49, .inr (0, [.int ((Gn16 3) 11 0), .int ((Gn16 3) 11 1), .int ((Gn16 3) 11 2), .int ((Gn16 3) 11 3), .ref (a 50)])), (a 50, .inl (cI, 16, .inl ((Gn16 3) 9))), (a 51, .inr (4, [.ref (a 52), .ref (a 53), .ref (a 54), .int ((Gn16 4) 10 0), .int ((Gn16 4) 10 1), .int ((Gn16 4) 10 2), .ref (a 55), .ref (a 56), .ref (a 57), .ref (a 58), .ref (a 59), .int ((Gn16 4) 10 3), .int ((Gn16 4) 10 4), .int ((Gn16 4) 10 5), .int ((Gn16 4) 10 6), .ref (a 60), .int ((Gn16 4) 10 7), .ref (a 61)])), (a 52, .inl (cI, 12, .inl ((Gn16 4) 0))), (a 53, .inl (cI, 16, .inl ((Gn16 4) 1))), (a 54, .inl (cI, 12, .inl ((Gn16 4) 2))), (a 55, .inl (cI, 48, .inl ((Gn16 4) 3))), (a 56, .inl (cI, 4, .inl ((Gn16 4) 4))), (a 57, .inl (cI, 4, .inl ((Gn16 4) 5))), (a 58, .inl (cI, 12, .inl ((Gn16 4) 6))), (a 59, .inl (cI, 4, .inl ((Gn16 4) 7))), (a 60, .inl (cI, 102, .inl ((Gn16 4) 8))), (a 61, .inr (0, [.int ((Gn16 4) 11 0), .int ((Gn16 4) 11 1), .int ((Gn16 4) 11 2), .int ((Gn16 4) 11 3), .ref (a 62)])), (a 62, .inl (cI, 16, .inl ((Gn16 4) 9))), (a 63, .inr (4, [.ref (a 64), .ref (a 65), .ref (a 66), .int ((Gn16 5) 10 0), .int ((Gn16 5) 10 1), .int ((Gn16 5) 10 2), .ref (a 67), .ref (a 68), .ref (a 69), .ref (a 70), .ref (a 71), .int ((Gn16 5) 10 3), .int ((Gn16 5) 10 4), .int ((Gn16 5) 10 5), .int ((Gn16 5) 10 6), .ref (a 72), .int ((Gn16 5) 10 7), .ref (a 73)])), (a 64, .inl (cI, 12, .inl ((Gn16 5) 0))), (a 65, .inl (cI, 16, .inl ((Gn16 5) 1))), (a 66, .inl (cI, 12, .inl ((Gn16 5) 2))), (a 67, .inl (cI, 48, .inl ((Gn16 5) 3))), (a 68, .inl (cI, 4, .inl ((Gn16 5) 4))), (a 69, .inl (cI, 4, .inl ((Gn16 5) 5))), (a 70, .inl (cI, 12, .inl ((Gn16 5) 6))), (a 71, .inl (cI, 4, .inl ((Gn16 5) 7))), (a 72, .inl (cI, 102, .inl ((Gn16 5) 8))), (a 73, .inr (0, [.int ((Gn16 5) 11 0), .int ((Gn16 5) 11 1), .int ((Gn16 5) 11 2), .int ((Gn16 5) 11 3), .ref (a 74)])), (a 74, .inl (cI, 16, .inl ((Gn16 5) 9))), (a 75, .inr (4, [.ref (a 76), .ref (a 77), .ref (a 78), .int ((Gn16 6) 10 0), .int ((Gn16 6) 10 1), .int ((Gn16 6) 10 2), .ref (a 79), .ref (a 80), .ref (a 81), .ref (a 82), .ref (a 83), .int ((Gn16 6) 10 3), .int ((Gn16 6) 10 4), .int ((Gn16 6) 10 5), .int ((Gn16 6) 10 6), .ref (a 84), .int ((Gn16 6) 10 7), .ref (a 85)])), (a 76, .inl (cI, 12, .inl ((Gn16 6) 0))), (a 77, .inl (cI, 16, .inl ((Gn16 6) 1))), (a 78, .inl (cI, 12, .inl ((Gn16 6) 2))), (a 79, .inl (cI, 48, .inl ((Gn16 6) 3))), (a 80, .inl (cI, 4, .inl ((Gn16 6) 4))), (a 81, .inl (cI, 4, .inl ((Gn16 6) 5))), (a 82, .inl (cI, 12, .inl ((Gn16 6) 6))), (a 83, .inl (cI, 4, .inl ((Gn16 6) 7))), (a 84, .inl (cI, 102, .inl ((Gn16 6) 8))), (a 85, .inr (0, [.int ((Gn16 6) 11 0), .int ((Gn16 6) 11 1), .int ((Gn16 6) 11 2), .int ((Gn16 6) 11 3), .ref (a 86)])), (a 86, .inl (cI, 16, .inl ((Gn16 6) 9))), (a 87, .inr (3, [.ref (a 1), .ref (a 88), .ref (a 89), .ref (a 90)])), (a 88, .inl (cI, 12, .inl ((Gn16 8) 0))), (a 89, .inl (cI, 12, .inl ((Gn16 8) 1))), (a 90, .inl (cI, 4, .inl ((Gn16 8) 2))), (a 91, .inr (2, [.ref (a 92), .int ((Gn16 9) 1 0), .int ((Gn16 9) 1 1)])), (a 92, .inl (cC, 140, .inl ((Gn16 9) 0)))]) (w1 := cSt (fun j => a (1 + j)) cI (f_X4_setChannelByHand (Gn16 0) p1 p2 p3)) hP hD [1, 2, 3, 4, 5, 6, 7, 8, 9, 10, 11, 12] [0, 13, 14, 15, 16, 17, 18, 19, 20, 21, 22, 23, 24, 25, 26, 27, 28, 29, 30, 31, 32, 33, 34, 35, 36, 37, 38, 39, 40, 41, 42, 43, 44, 45, 46, 47, 48, 49, 50, 51, 52, 53, 54, 55, 56, 57, 58, 59, 60, 61, 62, 63, 64, 65, 66, 67, 68, 69, 70, 71, 72, 73, 74, 75, 76, 77, 78, 79, 80, 81, 82, 83, 84, 85, 86, 87, 88, 89, 90, 91, 92] rfl rfl (by decide) (by decide) hk1 hFc hP1 hD1
        have hP : va_P (dC, dI) vwCl (cDk a cI cC cS (va_up Gn16 0 (f_X4_setChannelByHand (Gn16 0) p1 p2 p3))) H21 := hP.sub [0, 81, 82, 83, 84, 85, 86, 87, 88, 89, 90, 91, 92, 1, 2, 3, 4, 5, 6, 7, 8, 9, 10, 11, 12, 13, 14, 15, 16, 17, 18, 19, 20, 21, 22, 23, 24, 25, 26, 27, 28, 29, 30, 31, 32, 33, 34, 35, 36, 37, 38, 39, 40, 41, 42, 43, 44, 45, 46, 47, 48, 49, 50, 51, 52, 53, 54, 55, 56, 57, 58, 59, 60, 61, 62, 63, 64, 65, 66, 67, 68, 69, 70, 71, 72, 73, 74, 75, 76, 77, 78, 79, 80] rfl
        have hD : va_D (va_A (cDk a cI cC cS G) s.heap.size) (cDk a cI cC cS (va_up Gn16 0 (f_X4_setChannelByHand (Gn16 0) p1 p2 p3))) := hD.sub [0, 81, 82, 83, 84, 85, 86, 87, 88, 89, 90, 91, 92, 1, 2, 3, 4, 5, 6, 7, 8, 9, 10, 11, 12, 13, 14, 15, 16, 17, 18, 19, 20, 21, 22, 23, 24, 25, 26, 27, 28, 29, 30, 31, 32, 33, 34, 35, 36, 37, 38, 39, 40, 41, 42, 43, 44, 45, 46, 47, 48, 49, 50, 51, 52, 53, 54, 55, 56, 57, 58, 59, 60, 61, 62, 63, 64, 65, 66, 67, 68, 69, 70, 71, 72, 73, 74, 75, 76, 77, 78, 79, 80] (by decide) rfl
        obtain ⟨Gn23, eGn23⟩ : ∃ z : GR, z = va_up Gn16 0 (f_X4_setChannelByHand (Gn16 0) p1 p2 p3) := ⟨_, rfl⟩
        rw [sLet_eq, ← eGn23] at hR
        rw [← eGn23] at hP hD
        have hG24 : WFG Gn23 := (by rw [eGn23]; exact wfg_st hG17 (by decide) hens22)
        refine lv_iload hx hb dX5_setChannel_69 (lv_at hl 0 rfl) ?_
        exact W.iret (v := f_X4_channelProperty (Gn16 0) p1 p2) hx hb hr (fun t ht hWw => ⟨⟨f_X4_channelProperty (Gn16 0) p1 p2, Gn23, rfl, ⟨hR.symm.trans eR, hG24⟩, by rw [ht]; exact hP, hD⟩, hS.F ht⟩) hS.2.2 dX5_setChannel_71
      · rw [if_pos c12] at hR
        refine lv_iconst (v := (-1)) hx hb dX5_setChannel_35 (by decide) ?_
        exact W.iret (v := (-1)) hx hb hr (fun t ht hWw => ⟨⟨(-1), G, rfl, ⟨hR.symm.trans eR, hG⟩, by rw [ht]; exact hP, hD⟩, hS.F ht⟩) hS.2.2 dX5_setChannel_36
    · rw [if_pos c8] at hR
      refine lv_iconst (v := (-1)) hx hb dX5_setChannel_20 (by decide) ?_
      exact W.iret (v := (-1)) hx hb hr (fun t ht hWw => ⟨⟨(-1), G, rfl, ⟨hR.symm.trans eR, hG⟩, by rw [ht]; exact hP, hD⟩, hS.F ht⟩) hS.2.2 dX5_setChannel_21
abbrev rm_X5_setGroup : Room := { frames := 4, cells := 0, slots := 0, locals := 81 }
def f_X5_setGroup (G : GR) (p1 : Int32) (p2 : Int32) (p3 : Int32) : Int32 × GR := (if (f_X5_isBelow p1 4) = 0 then ((-1), G) else (if (f_X5_isBelow p2 2) = 0 then ((-1), G) else (if (f_X5_isWithin p3 0 (grI p2.toNatClampNeg)) = 0 then ((-1), G) else sLet ((f_X1_keep G)) (fun Gn16 : GR => sLet (va_up Gn16 0 (f_X4_setGroupByHand (Gn16 0) p1 p2 p3)) (fun Gn23 : GR => (f_X4_groupProperty (Gn16 0) p1 p2, Gn23))))))
set_option maxHeartbeats 4000000 in
set_option maxRecDepth 100000 in
theorem c_X5_setGroup (l : Launch) (dC : Nat → ClassId) (dI : Nat → Nat → Nat) (cI cC cS : ClassId) (a : Nat → Nat) (G : GR) (sz : Nat) (p1 : Int32) (p2 : Int32) (p3 : Int32) (hG : WFG G) : Met l yX5_setGroup wsX5_setGroup rm_X5_setGroup (PcS (dC, dI) (tyL cI cC cS) (cDk a cI cC cS G) sz [.ref (a 0), .int p1, .int p2, .int p3] (va_A (cDk a cI cC cS G) sz)) (va_Qi (fun (r : Int32) (u : GR) => (r, u) = f_X5_setGroup G p1 p2 p3 ∧ (WFG u)) (fun u U => va_P (dC, dI) vwCl (cDk a cI cC cS u) U.heap ∧ va_D (va_A (cDk a cI cC cS G) sz) (cDk a cI cC cS u)) (va_A (cDk a cI cC cS G) sz)) 0 0 (va_A (cDk a cI cC cS G) sz) := by
  refine Met.ofW (cc := cX5_setGroup) (maxL := 5) (ret := (some .int)) (by decide) rfl ?_
  intro p e s m args below meth c s₁ B hml hv
  obtain ⟨rfl, hsz, hP, hK, hD0, hN, hT⟩ := hv
  have hx := B.exec
  have hb := B.bytes
  have hr := B.returns
  have hts := atoms_spec (ws := wsX5_setGroup) B.pre
  have hown : s.vm.findClass RX5 = some m.cls := findClass_of_methodNamed B.named
  have hlocks := B.notSynchronized
  subst hsz
  obtain ⟨⟨tc, hZc, hTc⟩, ⟨tg, hZg, hTg⟩, ⟨ks, kv, hSk, hSr⟩⟩ := id hT
  have hD := hD0.self (sz := s.heap.size)
  have hA : ∀ q : Nat, s.heap.size ≤ q → (va_A (cDk a cI cC cS G) s.heap.size) q := fun q h => Or.inr h
  have hS : va_S (va_A (cDk a cI cC cS G) s.heap.size) s.heap s.heap [] := va_S.rf
  have hin5 : ∀ w ∈ wsX50, w ∈ wsX5_setGroup := fun _ h => List.mem_cons_of_mem _ (List.mem_append_left _ (List.mem_append_left _ (List.mem_append_left _ (List.mem_append_right _ h))))
  have hl := lv_entry [.ref (a 0), .int p1, .int p2, .int p3] (n := 5) (Nat.le_of_ble_eq_true rfl)
  rw [lg_entry_eq]
  generalize (lg_sl [.ref (a 0), .int p1, .int p2, .int p3] ++ List.replicate (5 - (lg_sl [.ref (a 0), .int p1, .int p2, .int p3]).length) Slot.unset).toArray = ls at hl ⊢
  have hl : lv_has ls 5 [(0, .ref (a 0)), (1, .int p1), (2, .int p2), (3, .int p3)] := hl
  obtain ⟨R0, eR⟩ : ∃ z, z = f_X5_setGroup G p1 p2 p3 := ⟨_, rfl⟩
  have hR := eR
  rw [f_X5_setGroup] at hR
  refine lv_iload_n hx hb dX5_setGroup_0 rfl (lv_at hl 1 rfl) ?_
  refine lv_iconst (v := 4) hx hb dX5_setGroup_1 (by decide) ?_
  have hFc : ∀ q : Nat, va_A [] s.heap.size q → (va_A (cDk a cI cC cS G) s.heap.size) q := roF hS hA
  refine va_calli (va_runS (As := [.int p1, .int 4]) (rest := []) ⟨hx, hb, hml, hown, hts⟩ (c_X5_isBelow l dC dI cI cC cS s.heap.size p1 4) (va_cwS 2 hts gX5_setGroup_X5_isBelow rfl rfl rfl (by decide +kernel) ⟨Nat.le_of_ble_eq_true rfl, Nat.le_of_ble_eq_true rfl⟩) (pS hK (va_P_nil) (va_D_nil) hN) rfl rfl hl.1 rfl (lv_room (Nat.le_of_ble_eq_true rfl)) dX5_setGroup_2 ⟨Nat.le_of_ble_eq_true rfl, Nat.le_of_ble_eq_true rfl⟩) hS (fun q _ h => hFc q h) hFc (fun r_1 u_1 t_1 H2 locs ht hvm hw hB hz1 hk1 hS => ?_)
  obtain ⟨hw, hre3⟩ := hw
  subst hw
  have hP := ro_keep hP hk1
  refine lv_if_eq (tgt := 19) hx hb dX5_setGroup_5 (by decide) (fun c4 => ?_) (fun c4 => ?_)
  · rw [if_pos c4] at hR
    refine lv_iconst (v := (-1)) hx hb dX5_setGroup_19 (by decide) ?_
    exact W.iret (v := (-1)) hx hb hr (fun t ht hWw => ⟨⟨(-1), G, rfl, ⟨hR.symm.trans eR, hG⟩, by rw [ht]; exact hP, hD⟩, hS.F ht⟩) hS.2.2 dX5_setGroup_20
  · rw [if_neg c4] at hR
    refine lv_iload_n hx hb dX5_setGroup_8 rfl (lv_at hl 2 rfl) ?_
    refine va_gets hx hb hZg hS hown (hts (.fieldLink RX5 65 "FeedDesk" "GROUP_MOST" "[I") (List.mem_of_getElem? (i := 1) rfl)) (fun _ h9 => h9) dX5_setGroup_9 ?_
    refine va_tlen (v := 2) hx hb hTg hS (by decide +kernel) dX5_setGroup_12 ?_
    have hFc : ∀ q : Nat, va_A [] H2.size q → (va_A (cDk a cI cC cS G) s.heap.size) q := roF hS hA
    refine va_calli (va_runS (As := [.int p2, .int 2]) (rest := []) ⟨hx, hb, hml, hown, hts⟩ (c_X5_isBelow l dC dI cI cC cS H2.size p2 2) (va_cwS 2 hts gX5_setGroup_X5_isBelow rfl rfl rfl (by decide +kernel) ⟨Nat.le_of_ble_eq_true rfl, Nat.le_of_ble_eq_true rfl⟩) (pS hK (va_P_nil) (va_D_nil) hN) rfl rfl hl.1 rfl (lv_room (Nat.le_of_ble_eq_true rfl)) dX5_setGroup_13 ⟨Nat.le_of_ble_eq_true rfl, Nat.le_of_ble_eq_true rfl⟩) hS (fun q _ h => hFc q h) hFc (fun r_5 u_5 t_5 H6 locs ht hvm hw hB hz1 hk1 hS => ?_)
    obtain ⟨hw, hre7⟩ := hw
    subst hw
    have hP := ro_keep hP hk1
    refine lv_if_ne (tgt := 21) hx hb dX5_setGroup_16 (by decide) (fun c8 => ?_) (fun c8 => ?_)
    · rw [if_neg c8] at hR
      refine lv_iload_n hx hb dX5_setGroup_21 rfl (lv_at hl 3 rfl) ?_
      refine lv_iconst (v := 0) hx hb dX5_setGroup_22 (by decide) ?_
      refine va_gets hx hb hZg hS hown (hts (.fieldLink RX5 65 "FeedDesk" "GROUP_MOST" "[I") (List.mem_of_getElem? (i := 1) rfl)) (fun _ h9 => h9) dX5_setGroup_23 ?_
      refine lv_iload_n hx hb dX5_setGroup_26 rfl (lv_at hl 2 rfl) ?_
      refine va_ti (v := .int (grI p2.toNatClampNeg)) hx hb hTg hS (below_vp (n := 2) c8) rfl dX5_setGroup_27 ?_
      have hFc : ∀ q : Nat, va_A [] H6.size q → (va_A (cDk a cI cC cS G) s.heap.size) q := roF hS hA
      refine va_calli (va_runS (As := [.int p3, .int 0, .int (grI p2.toNatClampNeg)]) (rest := []) ⟨hx, hb, hml, hown, hts⟩ (c_X5_isWithin l dC dI cI cC cS H6.size p3 0 (grI p2.toNatClampNeg)) (va_cwS 3 hts gX5_setGroup_X5_isWithin rfl rfl rfl (by decide +kernel) ⟨Nat.le_of_ble_eq_true rfl, Nat.le_of_ble_eq_true rfl⟩) (pS hK (va_P_nil) (va_D_nil) hN) rfl rfl hl.1 rfl (lv_room (Nat.le_of_ble_eq_true rfl)) dX5_setGroup_28 ⟨Nat.le_of_ble_eq_true rfl, Nat.le_of_ble_eq_true rfl⟩) hS (fun q _ h => hFc q h) hFc (fun r_9 u_9 t_9 H10 locs ht hvm hw hB hz1 hk1 hS => ?_)
      obtain ⟨hw, hre11⟩ := hw
      subst hw
      have hP := ro_keep hP hk1
      refine lv_if_ne (tgt := 36) hx hb dX5_setGroup_31 (by decide) (fun c12 => ?_) (fun c12 => ?_)
      · rw [if_neg c12] at hR
        refine lv_aload_n hx hb dX5_setGroup_36 rfl (lv_at hl 0 rfl) ?_
        refine va_get (D := (dC, dI)) (ci := 5) (v := .ref (a 25)) (C := RX5) (T := TX5) (N := 5) hx hb hts hin5 hown hK hP 0 rfl rfl 2 (by decide) (hts (.fieldLink RX5 22 "FeedDesk" "history" "LFeedDesk$History;") (List.mem_of_getElem? (i := 2) rfl)) (fun _ h9 => h9) rfl dX5_setGroup_37 ?_
        refine lv_aload_n hx hb dX5_setGroup_40 rfl (lv_at hl 0 rfl) ?_
        refine va_get (D := (dC, dI)) (ci := 5) (v := .ref (a 1)) (C := RX5) (T := TX5) (N := 5) hx hb hts hin5 hown hK hP 0 rfl rfl 0 (by decide) (hts (.fieldLink RX5 12 "FeedDesk" "now" "LFeedDesk$State;") (List.mem_of_getElem? (i := 3) rfl)) (fun _ h9 => h9) rfl dX5_setGroup_41 ?_
        have hPc : va_P (dC, dI) vwCl (cDk a cI cC cS G) H10 := hP.sub [0, 1, 2, 3, 4, 5, 6, 7, 8, 9, 10, 11, 12, 13, 14, 15, 16, 17, 18, 19, 20, 21, 22, 23, 24, 25, 26, 27, 28, 29, 30, 31, 32, 33, 34, 35, 36, 37, 38, 39, 40, 41, 42, 43, 44, 45, 46, 47, 48, 49, 50, 51, 52, 53, 54, 55, 56, 57, 58, 59, 60, 61, 62, 63, 64, 65, 66, 67, 68, 69, 70, 71, 72, 73, 74, 75, 76, 77, 78, 79, 80, 81, 82, 83, 84, 85, 86, 87, 88, 89, 90, 91, 92] rfl
        have hDc : va_D (va_A (cDk a cI cC cS G) s.heap.size) (cDk a cI cC cS G) := hD.sub [0, 1, 2, 3, 4, 5, 6, 7, 8, 9, 10, 11, 12, 13, 14, 15, 16, 17, 18, 19, 20, 21, 22, 23, 24, 25, 26, 27, 28, 29, 30, 31, 32, 33, 34, 35, 36, 37, 38, 39, 40, 41, 42, 43, 44, 45, 46, 47, 48, 49, 50, 51, 52, 53, 54, 55, 56, 57, 58, 59, 60, 61, 62, 63, 64, 65, 66, 67, 68, 69, 70, 71, 72, 73, 74, 75, 76, 77, 78, 79, 80, 81, 82, 83, 84, 85, 86, 87, 88, 89, 90, 91, 92] (by decide) rfl
        have hFc : ∀ q : Nat, va_A (cDk a cI cC cS G) H10.size q → (va_A (cDk a cI cC cS G) s.heap.size) q := va_free hD hS hA [0, 1, 2, 3, 4, 5, 6, 7, 8, 9, 10, 11, 12, 13, 14, 15, 16, 17, 18, 19, 20, 21, 22, 23, 24, 25, 26, 27, 28, 29, 30, 31, 32, 33, 34, 35, 36, 37, 38, 39, 40, 41, 42, 43, 44, 45, 46, 47, 48, 49, 50, 51, 52, 53, 54, 55, 56, 57, 58, 59, 60, 61, 62, 63, 64, 65, 66, 67, 68, 69, 70, 71, 72, 73, 74, 75, 76, 77, 78, 79, 80, 81, 82, 83, 84, 85, 86, 87, 88, 89, 90, 91, 92] rfl
        refine va_callv (va_runV (As := [.ref (a 1)]) (rest := []) ⟨hx, hb, hml, hown, hts⟩ (c_X1_keep l dC dI cI cC cS a G H10.size hG) (cwV 1 hts gX5_setGroup_X1_keep rfl rfl rfl (by decide +kernel) ⟨Nat.le_of_ble_eq_true rfl, Nat.le_of_ble_eq_true rfl⟩) (pV (q0 := 25) hK hPc hDc hN rfl rfl) rfl rfl hl.1 rfl (lv_room (Nat.le_of_ble_eq_true rfl)) dX5_setGroup_44 ⟨Nat.le_of_ble_eq_true rfl, Nat.le_of_ble_eq_true rfl⟩) hS (fun q _ h => hFc q h) hFc (fun u_13 t_13 H14 locs ht hvm hw hB hz1 hk1 hS => ?_)
        obtain ⟨hw, hens15⟩ := hw
        obtain ⟨hP1, hD1⟩ := hB
        rw [ht] at hP1
        subst hw
        obtain ⟨hP, hD⟩ := va_join (wc := cDk a cI cC cS G) (wr := []) (w1 := cDk a cI cC cS (f_X1_keep G)) hP hD [0, 1, 2, 3, 4, 5, 6, 7, 8, 9, 10, 11, 12, 13, 14, 15, 16, 17, 18, 19, 20, 21, 22, 23, 24, 25, 26, 27, 28, 29, 30, 31, 32, 33, 34, 35, 36, 37, 38, 39, 40, 41, 42, 43, 44, 45, 46, 47, 48, 49, 50, 51, 52, 53, 54, 55, 56, 57, 58, 59, 60, 61, 62, 63, 64, 65, 66, 67, 68, 69, 70, 71, 72, 73, 74, 75, 76, 77, 78, 79, 80, 81, 82, 83, 84, 85, 86, 87, 88, 89, 90, 91, 92] [] rfl rfl (by decide) (by decide) hk1 hFc hP1 hD1
        have hP : va_P (dC, dI) vwCl (cDk a cI cC cS (f_X1_keep G)) H14 := hP.sub [0, 1, 2, 3, 4, 5, 6, 7, 8, 9, 10, 11, 12, 13, 14, 15, 16, 17, 18, 19, 20, 21, 22, 23, 24, 25, 26, 27, 28, 29, 30, 31, 32, 33, 34, 35, 36, 37, 38, 39, 40, 41, 42, 43, 44, 45, 46, 47, 48, 49, 50, 51, 52, 53, 54, 55, 56, 57, 58, 59, 60, 61, 62, 63, 64, 65, 66, 67, 68, 69, 70, 71, 72, 73, 74, 75, 76, 77, 78, 79, 80, 81, 82, 83, 84, 85, 86, 87, 88, 89, 90, 91, 92] rfl
        have hD : va_D (va_A (cDk a cI cC cS G) s.heap.size) (cDk a cI cC cS (f_X1_keep G)) := hD.sub [0, 1, 2, 3, 4, 5, 6, 7, 8, 9, 10, 11, 12, 13, 14, 15, 16, 17, 18, 19, 20, 21, 22, 23, 24, 25, 26, 27, 28, 29, 30, 31, 32, 33, 34, 35, 36, 37, 38, 39, 40, 41, 42, 43, 44, 45, 46, 47, 48, 49, 50, 51, 52, 53, 54, 55, 56, 57, 58, 59, 60, 61, 62, 63, 64, 65, 66, 67, 68, 69, 70, 71, 72, 73, 74, 75, 76, 77, 78, 79, 80, 81, 82, 83, 84, 85, 86, 87, 88, 89, 90, 91, 92] (by decide) rfl
        obtain ⟨Gn16, eGn16⟩ : ∃ z : GR, z = (f_X1_keep G) := ⟨_, rfl⟩
        rw [sLet_eq, ← eGn16] at hR
        rw [← eGn16] at hP hD
        have hG17 : WFG Gn16 := by rw [eGn16]; exact hens15
        refine lv_aload_n hx hb dX5_setGroup_47 rfl (lv_at hl 0 rfl) ?_
        refine va_get (D := (dC, dI)) (ci := 5) (v := .ref (a 1)) (C := RX5) (T := TX5) (N := 5) hx hb hts hin5 hown hK hP 0 rfl rfl 0 (by decide) (hts (.fieldLink RX5 12 "FeedDesk" "now" "LFeedDesk$State;") (List.mem_of_getElem? (i := 3) rfl)) (fun _ h9 => h9) rfl dX5_setGroup_48 ?_
        refine lv_iload_n hx hb dX5_setGroup_51 rfl (lv_at hl 1 rfl) ?_
        refine lv_iload_n hx hb dX5_setGroup_52 rfl (lv_at hl 2 rfl) ?_
        have hPc : va_P (dC, dI) vwCl (cSt (fun j => a (1 + j)) cI (Gn16 0)) H14 := hP.sub [1, 2, 3, 4, 5, 6, 7, 8, 9, 10, 11, 12] rfl
        have hDc : va_D (va_A (cDk a cI cC cS G) s.heap.size) (cSt (fun j => a (1 + j)) cI (Gn16 0)) := hD.sub [1, 2, 3, 4, 5, 6, 7, 8, 9, 10, 11, 12] (by decide) rfl
        have hFc : ∀ q : Nat, va_A [] H14.size q → (va_A (cDk a cI cC cS G) s.heap.size) q := roF hS hA
        refine va_calli (va_runV (As := [.int p1, .int p2]) (rest := []) ⟨hx, hb, hml, hown, hts⟩ (c_X4_groupProperty l dC dI cI cC cS (fun j => a (1 + j)) (Gn16 0) H14.size p1 p2 (below_vp (n := 4) c4)) (cwV 2 hts gX5_setGroup_X4_groupProperty rfl rfl rfl (by decide +kernel) ⟨Nat.le_of_ble_eq_true rfl, Nat.le_of_ble_eq_true rfl⟩) (pV (q0 := 0) hK hPc hDc hN rfl rfl) rfl rfl hl.1 rfl (lv_room (Nat.le_of_ble_eq_true rfl)) dX5_setGroup_53 ⟨Nat.le_of_ble_eq_true rfl, Nat.le_of_ble_eq_true rfl⟩) hS (fun q _ h => hFc q h) hFc (fun r_18 u_18 t_18 H19 locs ht hvm hw hB hz1 hk1 hS => ?_)
        subst hw
        have hP := ro_keep hP hk1
        refine lv_istore (lv' := [(4, .int (f_X4_groupProperty (Gn16 0) p1 p2)), (0, .ref (a 0)), (1, .int p1), (2, .int p2), (3, .int p3)]) hx hb dX5_setGroup_56 hl (by decide) rfl (fun ls hl => ?_)
        refine lv_aload_n hx hb dX5_setGroup_58 rfl (lv_at hl 1 rfl) ?_
        refine va_get (D := (dC, dI)) (ci := 5) (v := .ref (a 1)) (C := RX5) (T := TX5) (N := 5) hx hb hts hin5 hown hK hP 0 rfl rfl 0 (by decide) (hts (.fieldLink RX5 12 "FeedDesk" "now" "LFeedDesk$State;") (List.mem_of_getElem? (i := 3) rfl)) (fun _ h9 => h9) rfl dX5_setGroup_59 ?_
        refine lv_iload_n hx hb dX5_setGroup_62 rfl (lv_at hl 2 rfl) ?_
        refine lv_iload_n hx hb dX5_setGroup_63 rfl (lv_at hl 3 rfl) ?_
        refine lv_iload_n hx hb dX5_setGroup_64 rfl (lv_at hl 4 rfl) ?_
        have hPc : va_P (dC, dI) vwCl (cSt (fun j => a (1 + j)) cI (Gn16 0)) H19 := hP.sub [1, 2, 3, 4, 5, 6, 7, 8, 9, 10, 11, 12] rfl
        have hDc : va_D (va_A (cDk a cI cC cS G) s.heap.size) (cSt (fun j => a (1 + j)) cI (Gn16 0)) := hD.sub [1, 2, 3, 4, 5, 6, 7, 8, 9, 10, 11, 12] (by decide) rfl
        have hFc : ∀ q : Nat, va_A (cSt (fun j => a (1 + j)) cI (Gn16 0)) H19.size q → (va_A (cDk a cI cC cS G) s.heap.size) q := va_free hD hS hA [1, 2, 3, 4, 5, 6, 7, 8, 9, 10, 11, 12] rfl
        refine va_callv (va_runV (As := [.int p1, .int p2, .int p3]) (rest := []) ⟨hx, hb, hml, hown, hts⟩ (c_X4_setGroupByHand l dC dI cI cC cS (fun j => a (1 + j)) (Gn16 0) H19.size p1 p2 p3 (below_vp (n := 4) c4) (hG17.1 0 (by decide))) (cwV 3 hts gX5_setGroup_X4_setGroupByHand rfl rfl rfl (by decide +kernel) ⟨Nat.le_of_ble_eq_true rfl, Nat.le_of_ble_eq_true rfl⟩) (pV (q0 := 0) hK hPc hDc hN rfl rfl) rfl rfl hl.1 rfl (lv_room (Nat.le_of_ble_eq_true rfl)) dX5_setGroup_65 ⟨Nat.le_of_ble_eq_true rfl, Nat.le_of_ble_eq_true rfl⟩) hS (fun q _ h => hFc q h) hFc (fun u_20 t_20 H21 locs ht hvm hw hB hz1 hk1 hS => ?_)
        obtain ⟨hw, hens22⟩ := hw
        obtain ⟨hP1, hD1⟩ := hB
        rw [ht] at hP1
        subst hw
        obtain ⟨hP, hD⟩ := va_join (wc := cSt (fun j => a (1 + j)) cI (Gn16 0)) (wr := [(a 0, .inr (5, [.ref (a 1), .ref (a 13), .ref (a 25), .ref (a 87), .ref (a 91)])), (a 13, .inr (4, [.ref (a 14), .ref (a 15), .ref (a 16), .int ((Gn16 1) 10 0), .int ((Gn16 1) 10 1), .int ((Gn16 1) 10 2), .ref (a 17), .ref (a 18), .ref (a 19), .ref (a 20), .ref (a 21), .int ((Gn16 1) 10 3), .int ((Gn16 1) 10 4), .int ((Gn16 1) 10 5), .int ((Gn16 1) 10 6), .ref (a 22), .int ((Gn16 1) 10 7), .ref (a 23)])), (a 14, .inl (cI, 12, .inl ((Gn16 1) 0))), (a 15, .inl (cI, 16, .inl ((Gn16 1) 1))), (a 16, .inl (cI, 12, .inl ((Gn16 1) 2))), (a 17, .inl (cI, 48, .inl ((Gn16 1) 3))), (a 18, .inl (cI, 4, .inl ((Gn16 1) 4))), (a 19, .inl (cI, 4, .inl ((Gn16 1) 5))), (a 20, .inl (cI, 12, .inl ((Gn16 1) 6))), (a 21, .inl (cI, 4, .inl ((Gn16 1) 7))), (a 22, .inl (cI, 102, .inl ((Gn16 1) 8))), (a 23, .inr (0, [.int ((Gn16 1) 11 0), .int ((Gn16 1) 11 1), .int ((Gn16 1) 11 2), .int ((Gn16 1) 11 3), .ref (a 24)])), (a 24, .inl (cI, 16, .inl ((Gn16 1) 9))), (a 25, .inr (1, [.ref (a 26), .int ((Gn16 7) 0 0), .int ((Gn16 7) 0 1)])), (a 26, .inl (cS, 5, .inr (.inr (.inr (.inr (kf a)))))), (a 27, .inr (4, [.ref (a 28), .ref (a 29), .ref (a 30), .int ((Gn16 2) 10 0), .int ((Gn16 2) 10 1), .int ((Gn16 2) 10 2), .ref (a 31), .ref (a 32), .ref (a 33), .ref (a 34), .ref (a 35), .int ((Gn16 2) 10 3), .int ((Gn16 2) 10 4), .int ((Gn16 2) 10 5), .int ((Gn16 2) 10 6), .ref (a 36), .int ((Gn16 2) 10 7), .ref (a 37)])), (a 28, .inl (cI, 12, .inl ((Gn16 2) 0))), (a 29, .inl (cI, 16, .inl ((Gn16 2) 1))), (a 30, .inl (cI, 12, .inl ((Gn16 2) 2))), (a 31, .inl (cI, 48, .inl ((Gn16 2) 3))), (a 32, .inl (cI, 4, .inl ((Gn16 2) 4))), (a 33, .inl (cI, 4, .inl ((Gn16 2) 5))), (a 34, .inl (cI, 12, .inl ((Gn16 2) 6))), (a 35, .inl (cI, 4, .inl ((Gn16 2) 7))), (a 36, .inl (cI, 102, .inl ((Gn16 2) 8))), (a 37, .inr (0, [.int ((Gn16 2) 11 0), .int ((Gn16 2) 11 1), .int ((Gn16 2) 11 2), .int ((Gn16 2) 11 3), .ref (a 38)])), (a 38, .inl (cI, 16, .inl ((Gn16 2) 9))), (a 39, .inr (4, [.ref (a 40), .ref (a 41), .ref (a 42), .int ((Gn16 3) 10 0), .int ((Gn16 3) 10 1), .int ((Gn16 3) 10 2), .ref (a 43), .ref (a 44), .ref (a 45), .ref (a 46), .ref (a 47), .int ((Gn16 3) 10 3), .int ((Gn16 3) 10 4), .int ((Gn16 3) 10 5), .int ((Gn16 3) 10 6), .ref (a 48), .int ((Gn16 3) 10 7), .ref (a 49)])), (a 40, .inl (cI, 12, .inl ((Gn16 3) 0))), (a 41, .inl (cI, 16, .inl ((Gn16 3) 1))), (a 42, .inl (cI, 12, .inl ((Gn16 3) 2))), (a 43, .inl (cI, 48, .inl ((Gn16 3) 3))), (a 44, .inl (cI, 4, .inl ((Gn16 3) 4))), (a 45, .inl (cI, 4, .inl ((Gn16 3) 5))), (a 46, .inl (cI, 12, .inl ((Gn16 3) 6))), (a 47, .inl (cI, 4, .inl ((Gn16 3) 7))), (a 48, .inl (cI, 102, .inl ((Gn16 3) 8))), (a 49, .inr (0, [.int ((Gn16 3) 11 0), .int ((Gn16 3) 11 1), .int ((Gn16 3) 11 2), .int ((Gn16 3) 11 3), .ref (a 50)])), (a 50, .inl (cI, 16, .inl ((Gn16 3) 9))), (a 51, .inr (4, [.ref (a 52), .ref (a 53), .ref (a 54), .int ((Gn16 4) 10 0), .int ((Gn16 4) 10 1), .int ((Gn16 4) 10 2), .ref (a 55), .ref (a 56), .ref (a 57), .ref (a 58), .ref (a 59), .int ((Gn16 4) 10 3), .int ((Gn16 4) 10 4), .int ((Gn16 4) 10 5), .int ((Gn16 4) 10 6), .ref (a 60), .int ((Gn16 4) 10 7), .ref (a 61)])), (a 52, .inl (cI, 12, .inl ((Gn16 4) 0))), (a 53, .inl (cI, 16, .inl ((Gn16 4) 1))), (a 54, .inl (cI, 12, .inl ((Gn16 4) 2))), (a 55, .inl (cI, 48, .inl ((Gn16 4) 3))), (a 56, .inl (cI, 4, .inl ((Gn16 4) 4))), (a 57, .inl (cI, 4, .inl ((Gn16 4) 5))), (a 58, .inl (cI, 12, .inl ((Gn16 4) 6))), (a 59, .inl (cI, 4, .inl ((Gn16 4) 7))), (a 60, .inl (cI, 102, .inl ((Gn16 4) 8))), (a 61, .inr (0, [.int ((Gn16 4) 11 0), .int ((Gn16 4) 11 1), .int ((Gn16 4) 11 2), .int ((Gn16 4) 11 3), .ref (a 62)])), (a 62, .inl (cI, 16, .inl ((Gn16 4) 9))), (a 63, .inr (4, [.ref (a 64), .ref (a 65), .ref (a 66), .int ((Gn16 5) 10 0), .int ((Gn16 5) 10 1), .int ((Gn16 5) 10 2), .ref (a 67), .ref (a 68), .ref (a 69), .ref (a 70), .ref (a 71), .int ((Gn16 5) 10 3), .int ((Gn16 5) 10 4), .int ((Gn16 5) 10 5), .int ((Gn16 5) 10 6), .ref (a 72), .int ((Gn16 5) 10 7), .ref (a 73)])), (a 64, .inl (cI, 12, .inl ((Gn16 5) 0))), (a 65, .inl (cI, 16, .inl ((Gn16 5) 1))), (a 66, .inl (cI, 12, .inl ((Gn16 5) 2))), (a 67, .inl (cI, 48, .inl ((Gn16 5) 3))), (a 68, .inl (cI, 4, .inl ((Gn16 5) 4))), (a 69, .inl (cI, 4, .inl ((Gn16 5) 5))), (a 70, .inl (cI, 12, .inl ((Gn16 5) 6))), (a 71, .inl (cI, 4, .inl ((Gn16 5) 7))), (a 72, .inl (cI, 102, .inl ((Gn16 5) 8))), (a 73, .inr (0, [.int ((Gn16 5) 11 0), .int ((Gn16 5) 11 1), .int ((Gn16 5) 11 2), .int ((Gn16 5) 11 3), .ref (a 74)])), (a 74, .inl (cI, 16, .inl ((Gn16 5) 9))), (a 75, .inr (4, [.ref (a 76), .ref (a 77), .ref (a 78), .int ((Gn16 6) 10 0), .int ((Gn16 6) 10 1), .int ((Gn16 6) 10 2), .ref (a 79), .ref (a 80), .ref (a 81), .ref (a 82), .ref (a 83), .int ((Gn16 6) 10 3), .int ((Gn16 6) 10 4), .int ((Gn16 6) 10 5), .int ((Gn16 6) 10 6), .ref (a 84), .int ((Gn16 6) 10 7), .ref (a 85)])), (a 76, .inl (cI, 12, .inl ((Gn16 6) 0))), (a 77, .inl (cI, 16, .inl ((Gn16 6) 1))), (a 78, .inl (cI, 12, .inl ((Gn16 6) 2))), (a 79, .inl (cI, 48, .inl ((Gn16 6) 3))), (a 80, .inl (cI, 4, .inl ((Gn16 6) 4))), (a 81, .inl (cI, 4, .inl ((Gn16 6) 5))), (a 82, .inl (cI, 12, .inl ((Gn16 6) 6))), (a 83, .inl (cI, 4, .inl ((Gn16 6) 7))), (a 84, .inl (cI, 102, .inl ((Gn16 6) 8))), (a 85, .inr (0, [.int ((Gn16 6) 11 0), .int ((Gn16 6) 11 1), .int ((Gn16 6) 11 2), .int ((Gn16 6) 11 3), .ref (a 86)])), (a 86, .inl (cI, 16, .inl ((Gn16 6) 9))), (a 87, .inr (3, [.ref (a 1), .ref (a 88), .ref (a 89), .ref (a 90)])), (a 88, .inl (cI, 12, .inl ((Gn16 8) 0))), (a 89, .inl (cI, 12, .inl ((Gn16 8) 1))), (a 90, .inl (cI, 4, .inl ((Gn16 8) 2))), (a 91, .inr (2, [.ref (a 92), .int ((Gn16 9) 1 0), .int ((Gn16 9) 1 1)])), (a 92, .inl (cC, 140, .inl ((Gn16 9) 0)))]) (w1 := cSt (fun j => a (1 + j)) cI (f_X4_setGroupByHand (Gn16 0) p1 p2 p3)) hP hD [1, 2, 3, 4, 5, 6, 7, 8, 9, 10, 11, 12] [0, 13, 14, 15, 16, 17, 18, 19, 20, 21, 22, 23, 24, 25, 26, 27, 28, 29, 30, 31, 32, 33, 34, 35, 36, 37, 38, 39, 40, 41, 42, 43, 44, 45, 46, 47, 48, 49, 50, 51, 52, 53, 54, 55, 56, 57, 58, 59, 60, 61, 62, 63, 64, 65, 66, 67, 68, 69, 70, 71, 72, 73, 74, 75, 76, 77, 78, 79, 80, 81, 82, 83, 84, 85, 86, 87, 88, 89, 90, 91, 92] rfl rfl (by decide) (by decide) hk1 hFc hP1 hD1
        have hP : va_P (dC, dI) vwCl (cDk a cI cC cS (va_up Gn16 0 (f_X4_setGroupByHand (Gn16 0) p1 p2 p3))) H21 := hP.sub [0, 81, 82, 83, 84, 85, 86, 87, 88, 89, 90, 91, 92, 1, 2, 3, 4, 5, 6, 7, 8, 9, 10, 11, 12, 13, 14, 15, 16, 17, 18, 19, 20, 21, 22, 23, 24, 25, 26, 27, 28, 29, 30, 31, 32, 33, 34, 35, 36, 37, 38, 39, 40, 41, 42, 43, 44, 45, 46, 47, 48, 49, 50, 51, 52, 53, 54, 55, 56, 57, 58, 59, 60, 61, 62, 63, 64, 65, 66, 67, 68, 69, 70, 71, 72, 73, 74, 75, 76, 77, 78, 79, 80] rfl
        have hD : va_D (va_A (cDk a cI cC cS G) s.heap.size) (cDk a cI cC cS (va_up Gn16 0 (f_X4_setGroupByHand (Gn16 0) p1 p2 p3))) := hD.sub [0, 81, 82, 83, 84, 85, 86, 87, 88, 89, 90, 91, 92, 1, 2, 3, 4, 5, 6, 7, 8, 9, 10, 11, 12, 13, 14, 15, 16, 17, 18, 19, 20, 21, 22, 23, 24, 25, 26, 27, 28, 29, 30, 31, 32, 33, 34, 35, 36, 37, 38, 39, 40, 41, 42, 43, 44, 45, 46, 47, 48, 49, 50, 51, 52, 53, 54, 55, 56, 57, 58, 59, 60, 61, 62, 63, 64, 65, 66, 67, 68, 69, 70, 71, 72, 73, 74, 75, 76, 77, 78, 79, 80] (by decide) rfl
        obtain ⟨Gn23, eGn23⟩ : ∃ z : GR, z = va_up Gn16 0 (f_X4_setGroupByHand (Gn16 0) p1 p2 p3) := ⟨_, rfl⟩
        rw [sLet_eq, ← eGn23] at hR
        rw [← eGn23] at hP hD
        have hG24 : WFG Gn23 := (by rw [eGn23]; exact wfg_st hG17 (by decide) hens22)
        refine lv_iload hx hb dX5_setGroup_68 (lv_at hl 0 rfl) ?_
        exact W.iret (v := f_X4_groupProperty (Gn16 0) p1 p2) hx hb hr (fun t ht hWw => ⟨⟨f_X4_groupProperty (Gn16 0) p1 p2, Gn23, rfl, ⟨hR.symm.trans eR, hG24⟩, by rw [ht]; exact hP, hD⟩, hS.F ht⟩) hS.2.2 dX5_setGroup_70
      · rw [if_pos c12] at hR
        refine lv_iconst (v := (-1)) hx hb dX5_setGroup_34 (by decide) ?_
        exact W.iret (v := (-1)) hx hb hr (fun t ht hWw => ⟨⟨(-1), G, rfl, ⟨hR.symm.trans eR, hG⟩, by rw [ht]; exact hP, hD⟩, hS.F ht⟩) hS.2.2 dX5_setGroup_35
    · rw [if_pos c8] at hR
      refine lv_iconst (v := (-1)) hx hb dX5_setGroup_19 (by decide) ?_
      exact W.iret (v := (-1)) hx hb hr (fun t ht hWw => ⟨⟨(-1), G, rfl, ⟨hR.symm.trans eR, hG⟩, by rw [ht]; exact hP, hD⟩, hS.F ht⟩) hS.2.2 dX5_setGroup_20
abbrev rm_X5_setSend : Room := { frames := 4, cells := 0, slots := 0, locals := 81 }
def f_X5_setSend (G : GR) (p1 : Int32) (p2 : Int32) (p3 : Int32) : Int32 × GR := (if (f_X5_isBelow p1 4) = 0 then ((-1), G) else (if (f_X5_isBelow p2 12) = 0 then ((-1), G) else (if (f_X5_isWithin p3 0 100) = 0 then ((-1), G) else sLet ((f_X1_keep G)) (fun Gn16 : GR => sLet (va_up Gn16 0 (sU (Gn16 0) 3 (f_X5_sendIndex p1 p2).toNatClampNeg p3)) (fun Gn23 : GR => ((Gn16 0) 3 (f_X5_sendIndex p1 p2).toNatClampNeg, Gn23))))))
set_option maxHeartbeats 4000000 in
set_option maxRecDepth 100000 in
theorem c_X5_setSend (l : Launch) (dC : Nat → ClassId) (dI : Nat → Nat → Nat) (cI cC cS : ClassId) (a : Nat → Nat) (G : GR) (sz : Nat) (p1 : Int32) (p2 : Int32) (p3 : Int32) (hG : WFG G) : Met l yX5_setSend wsX5_setSend rm_X5_setSend (PcG (dC, dI) (tyL cI cC cS) (cDk a cI cC cS G) sz [.ref (a 0), .int p1, .int p2, .int p3]) (va_Qi (fun (r : Int32) (u : GR) => (r, u) = f_X5_setSend G p1 p2 p3 ∧ (WFG u)) (fun u U => va_P (dC, dI) vwCl (cDk a cI cC cS u) U.heap ∧ va_D (va_A (cDk a cI cC cS G) sz) (cDk a cI cC cS u)) (va_A (cDk a cI cC cS G) sz)) 0 0 (va_A (cDk a cI cC cS G) sz) := by
  refine Met.ofW (cc := cX5_setSend) (maxL := 5) (ret := (some .int)) (by decide) rfl ?_
  intro p e s m args below meth c s₁ B hml hv
  obtain ⟨rfl, hsz, hP, hK, hD0, hN⟩ := hv
  have hx := B.exec
  have hb := B.bytes
  have hr := B.returns
  have hts := atoms_spec (ws := wsX5_setSend) B.pre
  have hown : s.vm.findClass RX5 = some m.cls := findClass_of_methodNamed B.named
  have hlocks := B.notSynchronized
  subst hsz
  have hD := hD0.self (sz := s.heap.size)
  have hA : ∀ q : Nat, s.heap.size ≤ q → (va_A (cDk a cI cC cS G) s.heap.size) q := fun q h => Or.inr h
  have hS : va_S (va_A (cDk a cI cC cS G) s.heap.size) s.heap s.heap [] := va_S.rf
  have hin5 : ∀ w ∈ wsX50, w ∈ wsX5_setSend := fun _ h => List.mem_cons_of_mem _ (List.mem_append_left _ (List.mem_append_left _ (List.mem_append_left _ (List.mem_append_right _ h))))
  have hin4 : ∀ w ∈ wsX40, w ∈ wsX5_setSend := fun _ h => List.mem_cons_of_mem _ (List.mem_append_left _ (List.mem_append_left _ (List.mem_append_right _ h)))
  have hl := lv_entry [.ref (a 0), .int p1, .int p2, .int p3] (n := 5) (Nat.le_of_ble_eq_true rfl)
  rw [lg_entry_eq]
  generalize (lg_sl [.ref (a 0), .int p1, .int p2, .int p3] ++ List.replicate (5 - (lg_sl [.ref (a 0), .int p1, .int p2, .int p3]).length) Slot.unset).toArray = ls at hl ⊢
  have hl : lv_has ls 5 [(0, .ref (a 0)), (1, .int p1), (2, .int p2), (3, .int p3)] := hl
  obtain ⟨R0, eR⟩ : ∃ z, z = f_X5_setSend G p1 p2 p3 := ⟨_, rfl⟩
  have hR := eR
  rw [f_X5_setSend] at hR
  refine lv_iload_n hx hb dX5_setSend_0 rfl (lv_at hl 1 rfl) ?_
  refine lv_iconst (v := 4) hx hb dX5_setSend_1 (by decide) ?_
  have hFc : ∀ q : Nat, va_A [] s.heap.size q → (va_A (cDk a cI cC cS G) s.heap.size) q := roF hS hA
  refine va_calli (va_runS (As := [.int p1, .int 4]) (rest := []) ⟨hx, hb, hml, hown, hts⟩ (c_X5_isBelow l dC dI cI cC cS s.heap.size p1 4) (va_cwS 2 hts gX5_setSend_X5_isBelow rfl rfl rfl (by decide +kernel) ⟨Nat.le_of_ble_eq_true rfl, Nat.le_of_ble_eq_true rfl⟩) (pS hK (va_P_nil) (va_D_nil) hN) rfl rfl hl.1 rfl (lv_room (Nat.le_of_ble_eq_true rfl)) dX5_setSend_2 ⟨Nat.le_of_ble_eq_true rfl, Nat.le_of_ble_eq_true rfl⟩) hS (fun q _ h => hFc q h) hFc (fun r_1 u_1 t_1 H2 locs ht hvm hw hB hz1 hk1 hS => ?_)
  obtain ⟨hw, hre3⟩ := hw
  subst hw
  have hP := ro_keep hP hk1
  refine lv_if_eq (tgt := 17) hx hb dX5_setSend_5 (by decide) (fun c4 => ?_) (fun c4 => ?_)
  · rw [if_pos c4] at hR
    refine lv_iconst (v := (-1)) hx hb dX5_setSend_17 (by decide) ?_
    exact W.iret (v := (-1)) hx hb hr (fun t ht hWw => ⟨⟨(-1), G, rfl, ⟨hR.symm.trans eR, hG⟩, by rw [ht]; exact hP, hD⟩, hS.F ht⟩) hS.2.2 dX5_setSend_18
  · rw [if_neg c4] at hR
    obtain ⟨ip1, hip1, ep1⟩ := vp_in_of (below_vp (n := 4) c4) (by decide)
    refine lv_iload_n hx hb dX5_setSend_8 rfl (lv_at hl 2 rfl) ?_
    refine lv_bipush (v := 12) hx hb dX5_setSend_9 (by decide) ?_
    have hFc : ∀ q : Nat, va_A [] H2.size q → (va_A (cDk a cI cC cS G) s.heap.size) q := roF hS hA
    refine va_calli (va_runS (As := [.int p2, .int 12]) (rest := []) ⟨hx, hb, hml, hown, hts⟩ (c_X5_isBelow l dC dI cI cC cS H2.size p2 12) (va_cwS 2 hts gX5_setSend_X5_isBelow rfl rfl rfl (by decide +kernel) ⟨Nat.le_of_ble_eq_true rfl, Nat.le_of_ble_eq_true rfl⟩) (pS hK (va_P_nil) (va_D_nil) hN) rfl rfl hl.1 rfl (lv_room (Nat.le_of_ble_eq_true rfl)) dX5_setSend_11 ⟨Nat.le_of_ble_eq_true rfl, Nat.le_of_ble_eq_true rfl⟩) hS (fun q _ h => hFc q h) hFc (fun r_5 u_5 t_5 H6 locs ht hvm hw hB hz1 hk1 hS => ?_)
    obtain ⟨hw, hre7⟩ := hw
    subst hw
    have hP := ro_keep hP hk1
    refine lv_if_ne (tgt := 19) hx hb dX5_setSend_14 (by decide) (fun c8 => ?_) (fun c8 => ?_)
    · rw [if_neg c8] at hR
      obtain ⟨ip2, hip2, ep2⟩ := vp_in_of (below_vp (n := 12) c8) (by decide)
      refine lv_iload_n hx hb dX5_setSend_19 rfl (lv_at hl 3 rfl) ?_
      refine lv_iconst (v := 0) hx hb dX5_setSend_20 (by decide) ?_
      refine lv_bipush (v := 100) hx hb dX5_setSend_21 (by decide) ?_
      have hFc : ∀ q : Nat, va_A [] H6.size q → (va_A (cDk a cI cC cS G) s.heap.size) q := roF hS hA
      refine va_calli (va_runS (As := [.int p3, .int 0, .int 100]) (rest := []) ⟨hx, hb, hml, hown, hts⟩ (c_X5_isWithin l dC dI cI cC cS H6.size p3 0 100) (va_cwS 3 hts gX5_setSend_X5_isWithin rfl rfl rfl (by decide +kernel) ⟨Nat.le_of_ble_eq_true rfl, Nat.le_of_ble_eq_true rfl⟩) (pS hK (va_P_nil) (va_D_nil) hN) rfl rfl hl.1 rfl (lv_room (Nat.le_of_ble_eq_true rfl)) dX5_setSend_23 ⟨Nat.le_of_ble_eq_true rfl, Nat.le_of_ble_eq_true rfl⟩) hS (fun q _ h => hFc q h) hFc (fun r_9 u_9 t_9 H10 locs ht hvm hw hB hz1 hk1 hS => ?_)
      obtain ⟨hw, hre11⟩ := hw
      subst hw
      have hP := ro_keep hP hk1
      refine lv_if_ne (tgt := 31) hx hb dX5_setSend_26 (by decide) (fun c12 => ?_) (fun c12 => ?_)
      · rw [if_neg c12] at hR
        refine lv_aload_n hx hb dX5_setSend_31 rfl (lv_at hl 0 rfl) ?_
        refine va_get (D := (dC, dI)) (ci := 5) (v := .ref (a 25)) (C := RX5) (T := TX5) (N := 5) hx hb hts hin5 hown hK hP 0 rfl rfl 2 (by decide) (hts (.fieldLink RX5 22 "FeedDesk" "history" "LFeedDesk$History;") (List.mem_of_getElem? (i := 1) rfl)) (fun _ h9 => h9) rfl dX5_setSend_32 ?_
        refine lv_aload_n hx hb dX5_setSend_35 rfl (lv_at hl 0 rfl) ?_
        refine va_get (D := (dC, dI)) (ci := 5) (v := .ref (a 1)) (C := RX5) (T := TX5) (N := 5) hx hb hts hin5 hown hK hP 0 rfl rfl 0 (by decide) (hts (.fieldLink RX5 12 "FeedDesk" "now" "LFeedDesk$State;") (List.mem_of_getElem? (i := 2) rfl)) (fun _ h9 => h9) rfl dX5_setSend_36 ?_
        have hPc : va_P (dC, dI) vwCl (cDk a cI cC cS G) H10 := hP.sub [0, 1, 2, 3, 4, 5, 6, 7, 8, 9, 10, 11, 12, 13, 14, 15, 16, 17, 18, 19, 20, 21, 22, 23, 24, 25, 26, 27, 28, 29, 30, 31, 32, 33, 34, 35, 36, 37, 38, 39, 40, 41, 42, 43, 44, 45, 46, 47, 48, 49, 50, 51, 52, 53, 54, 55, 56, 57, 58, 59, 60, 61, 62, 63, 64, 65, 66, 67, 68, 69, 70, 71, 72, 73, 74, 75, 76, 77, 78, 79, 80, 81, 82, 83, 84, 85, 86, 87, 88, 89, 90, 91, 92] rfl
        have hDc : va_D (va_A (cDk a cI cC cS G) s.heap.size) (cDk a cI cC cS G) := hD.sub [0, 1, 2, 3, 4, 5, 6, 7, 8, 9, 10, 11, 12, 13, 14, 15, 16, 17, 18, 19, 20, 21, 22, 23, 24, 25, 26, 27, 28, 29, 30, 31, 32, 33, 34, 35, 36, 37, 38, 39, 40, 41, 42, 43, 44, 45, 46, 47, 48, 49, 50, 51, 52, 53, 54, 55, 56, 57, 58, 59, 60, 61, 62, 63, 64, 65, 66, 67, 68, 69, 70, 71, 72, 73, 74, 75, 76, 77, 78, 79, 80, 81, 82, 83, 84, 85, 86, 87, 88, 89, 90, 91, 92] (by decide) rfl
        have hFc : ∀ q : Nat, va_A (cDk a cI cC cS G) H10.size q → (va_A (cDk a cI cC cS G) s.heap.size) q := va_free hD hS hA [0, 1, 2, 3, 4, 5, 6, 7, 8, 9, 10, 11, 12, 13, 14, 15, 16, 17, 18, 19, 20, 21, 22, 23, 24, 25, 26, 27, 28, 29, 30, 31, 32, 33, 34, 35, 36, 37, 38, 39, 40, 41, 42, 43, 44, 45, 46, 47, 48, 49, 50, 51, 52, 53, 54, 55, 56, 57, 58, 59, 60, 61, 62, 63, 64, 65, 66, 67, 68, 69, 70, 71, 72, 73, 74, 75, 76, 77, 78, 79, 80, 81, 82, 83, 84, 85, 86, 87, 88, 89, 90, 91, 92] rfl
        refine va_callv (va_runV (As := [.ref (a 1)]) (rest := []) ⟨hx, hb, hml, hown, hts⟩ (c_X1_keep l dC dI cI cC cS a G H10.size hG) (cwV 1 hts gX5_setSend_X1_keep rfl rfl rfl (by decide +kernel) ⟨Nat.le_of_ble_eq_true rfl, Nat.le_of_ble_eq_true rfl⟩) (pV (q0 := 25) hK hPc hDc hN rfl rfl) rfl rfl hl.1 rfl (lv_room (Nat.le_of_ble_eq_true rfl)) dX5_setSend_39 ⟨Nat.le_of_ble_eq_true rfl, Nat.le_of_ble_eq_true rfl⟩) hS (fun q _ h => hFc q h) hFc (fun u_13 t_13 H14 locs ht hvm hw hB hz1 hk1 hS => ?_)
        obtain ⟨hw, hens15⟩ := hw
        obtain ⟨hP1, hD1⟩ := hB
        rw [ht] at hP1
        subst hw
        obtain ⟨hP, hD⟩ := va_join (wc := cDk a cI cC cS G) (wr := []) (w1 := cDk a cI cC cS (f_X1_keep G)) hP hD [0, 1, 2, 3, 4, 5, 6, 7, 8, 9, 10, 11, 12, 13, 14, 15, 16, 17, 18, 19, 20, 21, 22, 23, 24, 25, 26, 27, 28, 29, 30, 31, 32, 33, 34, 35, 36, 37, 38, 39, 40, 41, 42, 43, 44, 45, 46, 47, 48, 49, 50, 51, 52, 53, 54, 55, 56, 57, 58, 59, 60, 61, 62, 63, 64, 65, 66, 67, 68, 69, 70, 71, 72, 73, 74, 75, 76, 77, 78, 79, 80, 81, 82, 83, 84, 85, 86, 87, 88, 89, 90, 91, 92] [] rfl rfl (by decide) (by decide) hk1 hFc hP1 hD1
        have hP : va_P (dC, dI) vwCl (cDk a cI cC cS (f_X1_keep G)) H14 := hP.sub [0, 1, 2, 3, 4, 5, 6, 7, 8, 9, 10, 11, 12, 13, 14, 15, 16, 17, 18, 19, 20, 21, 22, 23, 24, 25, 26, 27, 28, 29, 30, 31, 32, 33, 34, 35, 36, 37, 38, 39, 40, 41, 42, 43, 44, 45, 46, 47, 48, 49, 50, 51, 52, 53, 54, 55, 56, 57, 58, 59, 60, 61, 62, 63, 64, 65, 66, 67, 68, 69, 70, 71, 72, 73, 74, 75, 76, 77, 78, 79, 80, 81, 82, 83, 84, 85, 86, 87, 88, 89, 90, 91, 92] rfl
        have hD : va_D (va_A (cDk a cI cC cS G) s.heap.size) (cDk a cI cC cS (f_X1_keep G)) := hD.sub [0, 1, 2, 3, 4, 5, 6, 7, 8, 9, 10, 11, 12, 13, 14, 15, 16, 17, 18, 19, 20, 21, 22, 23, 24, 25, 26, 27, 28, 29, 30, 31, 32, 33, 34, 35, 36, 37, 38, 39, 40, 41, 42, 43, 44, 45, 46, 47, 48, 49, 50, 51, 52, 53, 54, 55, 56, 57, 58, 59, 60, 61, 62, 63, 64, 65, 66, 67, 68, 69, 70, 71, 72, 73, 74, 75, 76, 77, 78, 79, 80, 81, 82, 83, 84, 85, 86, 87, 88, 89, 90, 91, 92] (by decide) rfl
        obtain ⟨Gn16, eGn16⟩ : ∃ z : GR, z = (f_X1_keep G) := ⟨_, rfl⟩
        rw [sLet_eq, ← eGn16] at hR
        rw [← eGn16] at hP hD
        have hG17 : WFG Gn16 := by rw [eGn16]; exact hens15
        refine lv_aload_n hx hb dX5_setSend_42 rfl (lv_at hl 0 rfl) ?_
        refine va_get (D := (dC, dI)) (ci := 5) (v := .ref (a 1)) (C := RX5) (T := TX5) (N := 5) hx hb hts hin5 hown hK hP 0 rfl rfl 0 (by decide) (hts (.fieldLink RX5 12 "FeedDesk" "now" "LFeedDesk$State;") (List.mem_of_getElem? (i := 2) rfl)) (fun _ h9 => h9) rfl dX5_setSend_43 ?_
        refine va_getN (D := (dC, dI)) (ci := 4) (v := .ref (a 5)) (C := RX4) (T := TX4) (N := 18) hx hb hts hin4 hown hK hP 1 rfl rfl 6 (by decide) (va_Nw.use rfl (hN.at 20 rfl)) (fun _ h9 => h9) rfl dX5_setSend_46 ?_
        refine lv_iload_n hx hb dX5_setSend_49 rfl (lv_at hl 1 rfl) ?_
        refine lv_iload_n hx hb dX5_setSend_50 rfl (lv_at hl 2 rfl) ?_
        have hFc : ∀ q : Nat, va_A [] H14.size q → (va_A (cDk a cI cC cS G) s.heap.size) q := roF hS hA
        refine va_calli (va_runS (As := [.int p1, .int p2]) (rest := [.ref (a 5)]) ⟨hx, hb, hml, hown, hts⟩ (c_X5_sendIndex l dC dI cI cC cS H14.size p1 p2) (va_cwS 2 hts gX5_setSend_X5_sendIndex rfl rfl rfl (by decide +kernel) ⟨Nat.le_of_ble_eq_true rfl, Nat.le_of_ble_eq_true rfl⟩) (pS hK (va_P_nil) (va_D_nil) hN) rfl rfl hl.1 rfl (lv_room (Nat.le_of_ble_eq_true rfl)) dX5_setSend_51 ⟨Nat.le_of_ble_eq_true rfl, Nat.le_of_ble_eq_true rfl⟩) hS (fun q _ h => hFc q h) hFc (fun r_18 u_18 t_18 H19 locs ht hvm hw hB hz1 hk1 hS => ?_)
        subst hw
        have hP := ro_keep hP hk1
        refine va_iald (f := (Gn16 0) 3) hx hb hK hP 5 0 rfl rfl (by rw [ep1, ep2]; exact vp_of_B (ix_3 ip1 hip1 ip2 hip2)) dX5_setSend_54 ?_
        refine lv_istore (lv' := [(4, .int ((Gn16 0) 3 (f_X5_sendIndex p1 p2).toNatClampNeg)), (0, .ref (a 0)), (1, .int p1), (2, .int p2), (3, .int p3)]) hx hb dX5_setSend_55 hl (by decide) rfl (fun ls hl => ?_)
        refine lv_aload_n hx hb dX5_setSend_57 rfl (lv_at hl 1 rfl) ?_
        refine va_get (D := (dC, dI)) (ci := 5) (v := .ref (a 1)) (C := RX5) (T := TX5) (N := 5) hx hb hts hin5 hown hK hP 0 rfl rfl 0 (by decide) (hts (.fieldLink RX5 12 "FeedDesk" "now" "LFeedDesk$State;") (List.mem_of_getElem? (i := 2) rfl)) (fun _ h9 => h9) rfl dX5_setSend_58 ?_
        refine va_getN (D := (dC, dI)) (ci := 4) (v := .ref (a 5)) (C := RX4) (T := TX4) (N := 18) hx hb hts hin4 hown hK hP 1 rfl rfl 6 (by decide) (va_Nw.use rfl (hN.at 20 rfl)) (fun _ h9 => h9) rfl dX5_setSend_61 ?_
        refine lv_iload_n hx hb dX5_setSend_64 rfl (lv_at hl 2 rfl) ?_
        refine lv_iload_n hx hb dX5_setSend_65 rfl (lv_at hl 3 rfl) ?_
        have hFc : ∀ q : Nat, va_A [] H19.size q → (va_A (cDk a cI cC cS G) s.heap.size) q := roF hS hA
        refine va_calli (va_runS (As := [.int p1, .int p2]) (rest := [.ref (a 5)]) ⟨hx, hb, hml, hown, hts⟩ (c_X5_sendIndex l dC dI cI cC cS H19.size p1 p2) (va_cwS 2 hts gX5_setSend_X5_sendIndex rfl rfl rfl (by decide +kernel) ⟨Nat.le_of_ble_eq_true rfl, Nat.le_of_ble_eq_true rfl⟩) (pS hK (va_P_nil) (va_D_nil) hN) rfl rfl hl.1 rfl (lv_room (Nat.le_of_ble_eq_true rfl)) dX5_setSend_66 ⟨Nat.le_of_ble_eq_true rfl, Nat.le_of_ble_eq_true rfl⟩) hS (fun q _ h => hFc q h) hFc (fun r_20 u_20 t_20 H21 locs ht hvm hw hB hz1 hk1 hS => ?_)
        subst hw
        have hP := ro_keep hP hk1
        refine lv_iload_n hx hb dX5_setSend_69 rfl (lv_at hl 4 rfl) ?_
        refine va_iast (f := (Gn16 0) 3) hx hb hK hP hD hS 5 0 rfl rfl (by rw [ep1, ep2]; exact vp_of_B (ix_3 ip1 hip1 ip2 hip2)) dX5_setSend_70 (fun H22 locs hP hD hS => ?_)
        have hP : va_P (dC, dI) vwCl (cDk a cI cC cS (va_up Gn16 0 (sU (Gn16 0) 3 (f_X5_sendIndex p1 p2).toNatClampNeg p3))) H22 := hP
        have hD : va_D (va_A (cDk a cI cC cS G) s.heap.size) (cDk a cI cC cS (va_up Gn16 0 (sU (Gn16 0) 3 (f_X5_sendIndex p1 p2).toNatClampNeg p3))) := hD
        obtain ⟨Gn23, eGn23⟩ : ∃ z : GR, z = va_up Gn16 0 (sU (Gn16 0) 3 (f_X5_sendIndex p1 p2).toNatClampNeg p3) := ⟨_, rfl⟩
        rw [sLet_eq, ← eGn23] at hR
        rw [← eGn23] at hP hD
        have hG24 : WFG Gn23 := (by rw [eGn23]; exact wfg_st hG17 (by decide) (show WF (sU (Gn16 0) 3 (f_X5_sendIndex p1 p2).toNatClampNeg p3) from hG17.1 0 (by decide)))
        refine lv_iload hx hb dX5_setSend_71 (lv_at hl 0 rfl) ?_
        exact W.iret (v := (Gn16 0) 3 (f_X5_sendIndex p1 p2).toNatClampNeg) hx hb hr (fun t ht hWw => ⟨⟨(Gn16 0) 3 (f_X5_sendIndex p1 p2).toNatClampNeg, Gn23, rfl, ⟨hR.symm.trans eR, hG24⟩, by rw [ht]; exact hP, hD⟩, hS.F ht⟩) hS.2.2 dX5_setSend_73
      · rw [if_pos c12] at hR
        refine lv_iconst (v := (-1)) hx hb dX5_setSend_29 (by decide) ?_
        exact W.iret (v := (-1)) hx hb hr (fun t ht hWw => ⟨⟨(-1), G, rfl, ⟨hR.symm.trans eR, hG⟩, by rw [ht]; exact hP, hD⟩, hS.F ht⟩) hS.2.2 dX5_setSend_30
    · rw [if_pos c8] at hR
      refine lv_iconst (v := (-1)) hx hb dX5_setSend_17 (by decide) ?_
      exact W.iret (v := (-1)) hx hb hr (fun t ht hWw => ⟨⟨(-1), G, rfl, ⟨hR.symm.trans eR, hG⟩, by rw [ht]; exact hP, hD⟩, hS.F ht⟩) hS.2.2 dX5_setSend_18
abbrev rm_X5_setOwner : Room := { frames := 4, cells := 0, slots := 0, locals := 81 }
def f_X5_setOwner (G : GR) (p1 : Int32) (p2 : Int32) (p3 : Int32) : Int32 × GR := (if (f_X5_isBelow p1 4) = 0 then ((-1), G) else (if (f_X5_isBelow p2 12) = 0 then ((-1), G) else (if (f_X5_isWithin p3 0 1) = 0 then ((-1), G) else sLet ((f_X1_keep G)) (fun Gn16 : GR => sLet (va_up Gn16 0 (sU (Gn16 0) 4 p1.toNatClampNeg (f_X5_withBit ((Gn16 0) 4 p1.toNatClampNeg) p2 p3))) (fun Gn21 : GR => (f_J6_bitCount_0f7a4 ((Gn21 0) 4 p1.toNatClampNeg), Gn21))))))
set_option maxHeartbeats 4000000 in
set_option maxRecDepth 100000 in
theorem c_X5_setOwner (l : Launch) (dC : Nat → ClassId) (dI : Nat → Nat → Nat) (cI cC cS : ClassId) (a : Nat → Nat) (G : GR) (sz : Nat) (p1 : Int32) (p2 : Int32) (p3 : Int32) (hG : WFG G) : Met l yX5_setOwner wsX5_setOwner rm_X5_setOwner (PcG (dC, dI) (tyL cI cC cS) (cDk a cI cC cS G) sz [.ref (a 0), .int p1, .int p2, .int p3]) (va_Qi (fun (r : Int32) (u : GR) => (r, u) = f_X5_setOwner G p1 p2 p3 ∧ (WFG u)) (fun u U => va_P (dC, dI) vwCl (cDk a cI cC cS u) U.heap ∧ va_D (va_A (cDk a cI cC cS G) sz) (cDk a cI cC cS u)) (va_A (cDk a cI cC cS G) sz)) 0 0 (va_A (cDk a cI cC cS G) sz) := by
  refine Met.ofW (cc := cX5_setOwner) (maxL := 4) (ret := (some .int)) (by decide) rfl ?_
  intro p e s m args below meth c s₁ B hml hv
  obtain ⟨rfl, hsz, hP, hK, hD0, hN⟩ := hv
  have hx := B.exec
  have hb := B.bytes
  have hr := B.returns
  have hts := atoms_spec (ws := wsX5_setOwner) B.pre
  have hown : s.vm.findClass RX5 = some m.cls := findClass_of_methodNamed B.named
  have hlocks := B.notSynchronized
  subst hsz
  have hD := hD0.self (sz := s.heap.size)
  have hA : ∀ q : Nat, s.heap.size ≤ q → (va_A (cDk a cI cC cS G) s.heap.size) q := fun q h => Or.inr h
  have hS : va_S (va_A (cDk a cI cC cS G) s.heap.size) s.heap s.heap [] := va_S.rf
  have hin5 : ∀ w ∈ wsX50, w ∈ wsX5_setOwner := fun _ h => List.mem_cons_of_mem _ (List.mem_append_left _ (List.mem_append_left _ (List.mem_append_left _ (List.mem_append_right _ h))))
  have hin4 : ∀ w ∈ wsX40, w ∈ wsX5_setOwner := fun _ h => List.mem_cons_of_mem _ (List.mem_append_left _ (List.mem_append_left _ (List.mem_append_right _ h)))
  have hl := lv_entry [.ref (a 0), .int p1, .int p2, .int p3] (n := 4) (Nat.le_of_ble_eq_true rfl)
  rw [lg_entry_eq]
  generalize (lg_sl [.ref (a 0), .int p1, .int p2, .int p3] ++ List.replicate (4 - (lg_sl [.ref (a 0), .int p1, .int p2, .int p3]).length) Slot.unset).toArray = ls at hl ⊢
  have hl : lv_has ls 4 [(0, .ref (a 0)), (1, .int p1), (2, .int p2), (3, .int p3)] := hl
  obtain ⟨R0, eR⟩ : ∃ z, z = f_X5_setOwner G p1 p2 p3 := ⟨_, rfl⟩
  have hR := eR
  rw [f_X5_setOwner] at hR
  refine lv_iload_n hx hb dX5_setOwner_0 rfl (lv_at hl 1 rfl) ?_
  refine lv_iconst (v := 4) hx hb dX5_setOwner_1 (by decide) ?_
  have hFc : ∀ q : Nat, va_A [] s.heap.size q → (va_A (cDk a cI cC cS G) s.heap.size) q := roF hS hA
  refine va_calli (va_runS (As := [.int p1, .int 4]) (rest := []) ⟨hx, hb, hml, hown, hts⟩ (c_X5_isBelow l dC dI cI cC cS s.heap.size p1 4) (va_cwS 2 hts gX5_setOwner_X5_isBelow rfl rfl rfl (by decide +kernel) ⟨Nat.le_of_ble_eq_true rfl, Nat.le_of_ble_eq_true rfl⟩) (pS hK (va_P_nil) (va_D_nil) hN) rfl rfl hl.1 rfl (lv_room (Nat.le_of_ble_eq_true rfl)) dX5_setOwner_2 ⟨Nat.le_of_ble_eq_true rfl, Nat.le_of_ble_eq_true rfl⟩) hS (fun q _ h => hFc q h) hFc (fun r_1 u_1 t_1 H2 locs ht hvm hw hB hz1 hk1 hS => ?_)
  obtain ⟨hw, hre3⟩ := hw
  subst hw
  have hP := ro_keep hP hk1
  refine lv_if_eq (tgt := 17) hx hb dX5_setOwner_5 (by decide) (fun c4 => ?_) (fun c4 => ?_)
  · rw [if_pos c4] at hR
    refine lv_iconst (v := (-1)) hx hb dX5_setOwner_17 (by decide) ?_
    exact W.iret (v := (-1)) hx hb hr (fun t ht hWw => ⟨⟨(-1), G, rfl, ⟨hR.symm.trans eR, hG⟩, by rw [ht]; exact hP, hD⟩, hS.F ht⟩) hS.2.2 dX5_setOwner_18
  · rw [if_neg c4] at hR
    refine lv_iload_n hx hb dX5_setOwner_8 rfl (lv_at hl 2 rfl) ?_
    refine lv_bipush (v := 12) hx hb dX5_setOwner_9 (by decide) ?_
    have hFc : ∀ q : Nat, va_A [] H2.size q → (va_A (cDk a cI cC cS G) s.heap.size) q := roF hS hA
    refine va_calli (va_runS (As := [.int p2, .int 12]) (rest := []) ⟨hx, hb, hml, hown, hts⟩ (c_X5_isBelow l dC dI cI cC cS H2.size p2 12) (va_cwS 2 hts gX5_setOwner_X5_isBelow rfl rfl rfl (by decide +kernel) ⟨Nat.le_of_ble_eq_true rfl, Nat.le_of_ble_eq_true rfl⟩) (pS hK (va_P_nil) (va_D_nil) hN) rfl rfl hl.1 rfl (lv_room (Nat.le_of_ble_eq_true rfl)) dX5_setOwner_11 ⟨Nat.le_of_ble_eq_true rfl, Nat.le_of_ble_eq_true rfl⟩) hS (fun q _ h => hFc q h) hFc (fun r_5 u_5 t_5 H6 locs ht hvm hw hB hz1 hk1 hS => ?_)
    obtain ⟨hw, hre7⟩ := hw
    subst hw
    have hP := ro_keep hP hk1
    refine lv_if_ne (tgt := 19) hx hb dX5_setOwner_14 (by decide) (fun c8 => ?_) (fun c8 => ?_)
    · rw [if_neg c8] at hR
      refine lv_iload_n hx hb dX5_setOwner_19 rfl (lv_at hl 3 rfl) ?_
      refine lv_iconst (v := 0) hx hb dX5_setOwner_20 (by decide) ?_
      refine lv_iconst (v := 1) hx hb dX5_setOwner_21 (by decide) ?_
      have hFc : ∀ q : Nat, va_A [] H6.size q → (va_A (cDk a cI cC cS G) s.heap.size) q := roF hS hA
      refine va_calli (va_runS (As := [.int p3, .int 0, .int 1]) (rest := []) ⟨hx, hb, hml, hown, hts⟩ (c_X5_isWithin l dC dI cI cC cS H6.size p3 0 1) (va_cwS 3 hts gX5_setOwner_X5_isWithin rfl rfl rfl (by decide +kernel) ⟨Nat.le_of_ble_eq_true rfl, Nat.le_of_ble_eq_true rfl⟩) (pS hK (va_P_nil) (va_D_nil) hN) rfl rfl hl.1 rfl (lv_room (Nat.le_of_ble_eq_true rfl)) dX5_setOwner_22 ⟨Nat.le_of_ble_eq_true rfl, Nat.le_of_ble_eq_true rfl⟩) hS (fun q _ h => hFc q h) hFc (fun r_9 u_9 t_9 H10 locs ht hvm hw hB hz1 hk1 hS => ?_)
      obtain ⟨hw, hre11⟩ := hw
      subst hw
      have hP := ro_keep hP hk1
      refine lv_if_ne (tgt := 30) hx hb dX5_setOwner_25 (by decide) (fun c12 => ?_) (fun c12 => ?_)
      · rw [if_neg c12] at hR
        refine lv_aload_n hx hb dX5_setOwner_30 rfl (lv_at hl 0 rfl) ?_
        refine va_get (D := (dC, dI)) (ci := 5) (v := .ref (a 25)) (C := RX5) (T := TX5) (N := 5) hx hb hts hin5 hown hK hP 0 rfl rfl 2 (by decide) (hts (.fieldLink RX5 22 "FeedDesk" "history" "LFeedDesk$History;") (List.mem_of_getElem? (i := 1) rfl)) (fun _ h9 => h9) rfl dX5_setOwner_31 ?_
        refine lv_aload_n hx hb dX5_setOwner_34 rfl (lv_at hl 0 rfl) ?_
        refine va_get (D := (dC, dI)) (ci := 5) (v := .ref (a 1)) (C := RX5) (T := TX5) (N := 5) hx hb hts hin5 hown hK hP 0 rfl rfl 0 (by decide) (hts (.fieldLink RX5 12 "FeedDesk" "now" "LFeedDesk$State;") (List.mem_of_getElem? (i := 2) rfl)) (fun _ h9 => h9) rfl dX5_setOwner_35 ?_
        have hPc : va_P (dC, dI) vwCl (cDk a cI cC cS G) H10 := hP.sub [0, 1, 2, 3, 4, 5, 6, 7, 8, 9, 10, 11, 12, 13, 14, 15, 16, 17, 18, 19, 20, 21, 22, 23, 24, 25, 26, 27, 28, 29, 30, 31, 32, 33, 34, 35, 36, 37, 38, 39, 40, 41, 42, 43, 44, 45, 46, 47, 48, 49, 50, 51, 52, 53, 54, 55, 56, 57, 58, 59, 60, 61, 62, 63, 64, 65, 66, 67, 68, 69, 70, 71, 72, 73, 74, 75, 76, 77, 78, 79, 80, 81, 82, 83, 84, 85, 86, 87, 88, 89, 90, 91, 92] rfl
        have hDc : va_D (va_A (cDk a cI cC cS G) s.heap.size) (cDk a cI cC cS G) := hD.sub [0, 1, 2, 3, 4, 5, 6, 7, 8, 9, 10, 11, 12, 13, 14, 15, 16, 17, 18, 19, 20, 21, 22, 23, 24, 25, 26, 27, 28, 29, 30, 31, 32, 33, 34, 35, 36, 37, 38, 39, 40, 41, 42, 43, 44, 45, 46, 47, 48, 49, 50, 51, 52, 53, 54, 55, 56, 57, 58, 59, 60, 61, 62, 63, 64, 65, 66, 67, 68, 69, 70, 71, 72, 73, 74, 75, 76, 77, 78, 79, 80, 81, 82, 83, 84, 85, 86, 87, 88, 89, 90, 91, 92] (by decide) rfl
        have hFc : ∀ q : Nat, va_A (cDk a cI cC cS G) H10.size q → (va_A (cDk a cI cC cS G) s.heap.size) q := va_free hD hS hA [0, 1, 2, 3, 4, 5, 6, 7, 8, 9, 10, 11, 12, 13, 14, 15, 16, 17, 18, 19, 20, 21, 22, 23, 24, 25, 26, 27, 28, 29, 30, 31, 32, 33, 34, 35, 36, 37, 38, 39, 40, 41, 42, 43, 44, 45, 46, 47, 48, 49, 50, 51, 52, 53, 54, 55, 56, 57, 58, 59, 60, 61, 62, 63, 64, 65, 66, 67, 68, 69, 70, 71, 72, 73, 74, 75, 76, 77, 78, 79, 80, 81, 82, 83, 84, 85, 86, 87, 88, 89, 90, 91, 92] rfl
        refine va_callv (va_runV (As := [.ref (a 1)]) (rest := []) ⟨hx, hb, hml, hown, hts⟩ (c_X1_keep l dC dI cI cC cS a G H10.size hG) (cwV 1 hts gX5_setOwner_X1_keep rfl rfl rfl (by decide +kernel) ⟨Nat.le_of_ble_eq_true rfl, Nat.le_of_ble_eq_true rfl⟩) (pV (q0 := 25) hK hPc hDc hN rfl rfl) rfl rfl hl.1 rfl (lv_room (Nat.le_of_ble_eq_true rfl)) dX5_setOwner_38 ⟨Nat.le_of_ble_eq_true rfl, Nat.le_of_ble_eq_true rfl⟩) hS (fun q _ h => hFc q h) hFc (fun u_13 t_13 H14 locs ht hvm hw hB hz1 hk1 hS => ?_)
        obtain ⟨hw, hens15⟩ := hw
        obtain ⟨hP1, hD1⟩ := hB
        rw [ht] at hP1
        subst hw
        obtain ⟨hP, hD⟩ := va_join (wc := cDk a cI cC cS G) (wr := []) (w1 := cDk a cI cC cS (f_X1_keep G)) hP hD [0, 1, 2, 3, 4, 5, 6, 7, 8, 9, 10, 11, 12, 13, 14, 15, 16, 17, 18, 19, 20, 21, 22, 23, 24, 25, 26, 27, 28, 29, 30, 31, 32, 33, 34, 35, 36, 37, 38, 39, 40, 41, 42, 43, 44, 45, 46, 47, 48, 49, 50, 51, 52, 53, 54, 55, 56, 57, 58, 59, 60, 61, 62, 63, 64, 65, 66, 67, 68, 69, 70, 71, 72, 73, 74, 75, 76, 77, 78, 79, 80, 81, 82, 83, 84, 85, 86, 87, 88, 89, 90, 91, 92] [] rfl rfl (by decide) (by decide) hk1 hFc hP1 hD1
        have hP : va_P (dC, dI) vwCl (cDk a cI cC cS (f_X1_keep G)) H14 := hP.sub [0, 1, 2, 3, 4, 5, 6, 7, 8, 9, 10, 11, 12, 13, 14, 15, 16, 17, 18, 19, 20, 21, 22, 23, 24, 25, 26, 27, 28, 29, 30, 31, 32, 33, 34, 35, 36, 37, 38, 39, 40, 41, 42, 43, 44, 45, 46, 47, 48, 49, 50, 51, 52, 53, 54, 55, 56, 57, 58, 59, 60, 61, 62, 63, 64, 65, 66, 67, 68, 69, 70, 71, 72, 73, 74, 75, 76, 77, 78, 79, 80, 81, 82, 83, 84, 85, 86, 87, 88, 89, 90, 91, 92] rfl
        have hD : va_D (va_A (cDk a cI cC cS G) s.heap.size) (cDk a cI cC cS (f_X1_keep G)) := hD.sub [0, 1, 2, 3, 4, 5, 6, 7, 8, 9, 10, 11, 12, 13, 14, 15, 16, 17, 18, 19, 20, 21, 22, 23, 24, 25, 26, 27, 28, 29, 30, 31, 32, 33, 34, 35, 36, 37, 38, 39, 40, 41, 42, 43, 44, 45, 46, 47, 48, 49, 50, 51, 52, 53, 54, 55, 56, 57, 58, 59, 60, 61, 62, 63, 64, 65, 66, 67, 68, 69, 70, 71, 72, 73, 74, 75, 76, 77, 78, 79, 80, 81, 82, 83, 84, 85, 86, 87, 88, 89, 90, 91, 92] (by decide) rfl
        obtain ⟨Gn16, eGn16⟩ : ∃ z : GR, z = (f_X1_keep G) := ⟨_, rfl⟩
        rw [sLet_eq, ← eGn16] at hR
        rw [← eGn16] at hP hD
        have hG17 : WFG Gn16 := by rw [eGn16]; exact hens15
        refine lv_aload_n hx hb dX5_setOwner_41 rfl (lv_at hl 0 rfl) ?_
        refine va_get (D := (dC, dI)) (ci := 5) (v := .ref (a 1)) (C := RX5) (T := TX5) (N := 5) hx hb hts hin5 hown hK hP 0 rfl rfl 0 (by decide) (hts (.fieldLink RX5 12 "FeedDesk" "now" "LFeedDesk$State;") (List.mem_of_getElem? (i := 2) rfl)) (fun _ h9 => h9) rfl dX5_setOwner_42 ?_
        refine va_getN (D := (dC, dI)) (ci := 4) (v := .ref (a 6)) (C := RX4) (T := TX4) (N := 18) hx hb hts hin4 hown hK hP 1 rfl rfl 7 (by decide) (va_Nw.use rfl (hN.at 23 rfl)) (fun _ h9 => h9) rfl dX5_setOwner_45 ?_
        refine lv_iload_n hx hb dX5_setOwner_48 rfl (lv_at hl 1 rfl) ?_
        refine lv_aload_n hx hb dX5_setOwner_49 rfl (lv_at hl 0 rfl) ?_
        refine va_get (D := (dC, dI)) (ci := 5) (v := .ref (a 1)) (C := RX5) (T := TX5) (N := 5) hx hb hts hin5 hown hK hP 0 rfl rfl 0 (by decide) (hts (.fieldLink RX5 12 "FeedDesk" "now" "LFeedDesk$State;") (List.mem_of_getElem? (i := 2) rfl)) (fun _ h9 => h9) rfl dX5_setOwner_50 ?_
        refine va_getN (D := (dC, dI)) (ci := 4) (v := .ref (a 6)) (C := RX4) (T := TX4) (N := 18) hx hb hts hin4 hown hK hP 1 rfl rfl 7 (by decide) (va_Nw.use rfl (hN.at 23 rfl)) (fun _ h9 => h9) rfl dX5_setOwner_53 ?_
        refine lv_iload_n hx hb dX5_setOwner_56 rfl (lv_at hl 1 rfl) ?_
        refine va_iald (f := (Gn16 0) 4) hx hb hK hP 6 0 rfl rfl (below_vp (n := 4) c4) dX5_setOwner_57 ?_
        refine lv_iload_n hx hb dX5_setOwner_58 rfl (lv_at hl 2 rfl) ?_
        refine lv_iload_n hx hb dX5_setOwner_59 rfl (lv_at hl 3 rfl) ?_
        have hFc : ∀ q : Nat, va_A [] H14.size q → (va_A (cDk a cI cC cS G) s.heap.size) q := roF hS hA
        refine va_calli (va_runS (As := [.int ((Gn16 0) 4 p1.toNatClampNeg), .int p2, .int p3]) (rest := [.int p1, .ref (a 6)]) ⟨hx, hb, hml, hown, hts⟩ (c_X5_withBit l dC dI cI cC cS H14.size ((Gn16 0) 4 p1.toNatClampNeg) p2 p3) (va_cwS 3 hts gX5_setOwner_X5_withBit rfl rfl rfl (by decide +kernel) ⟨Nat.le_of_ble_eq_true rfl, Nat.le_of_ble_eq_true rfl⟩) (pS hK (va_P_nil) (va_D_nil) hN) rfl rfl hl.1 rfl (lv_room (Nat.le_of_ble_eq_true rfl)) dX5_setOwner_60 ⟨Nat.le_of_ble_eq_true rfl, Nat.le_of_ble_eq_true rfl⟩) hS (fun q _ h => hFc q h) hFc (fun r_18 u_18 t_18 H19 locs ht hvm hw hB hz1 hk1 hS => ?_)
        subst hw
        have hP := ro_keep hP hk1
        refine va_iast (f := (Gn16 0) 4) hx hb hK hP hD hS 6 0 rfl rfl (below_vp (n := 4) c4) dX5_setOwner_63 (fun H20 locs hP hD hS => ?_)
        have hP : va_P (dC, dI) vwCl (cDk a cI cC cS (va_up Gn16 0 (sU (Gn16 0) 4 p1.toNatClampNeg (f_X5_withBit ((Gn16 0) 4 p1.toNatClampNeg) p2 p3)))) H20 := hP
        have hD : va_D (va_A (cDk a cI cC cS G) s.heap.size) (cDk a cI cC cS (va_up Gn16 0 (sU (Gn16 0) 4 p1.toNatClampNeg (f_X5_withBit ((Gn16 0) 4 p1.toNatClampNeg) p2 p3)))) := hD
        obtain ⟨Gn21, eGn21⟩ : ∃ z : GR, z = va_up Gn16 0 (sU (Gn16 0) 4 p1.toNatClampNeg (f_X5_withBit ((Gn16 0) 4 p1.toNatClampNeg) p2 p3)) := ⟨_, rfl⟩
        rw [sLet_eq, ← eGn21] at hR
        rw [← eGn21] at hP hD
        have hG22 : WFG Gn21 := (by rw [eGn21]; exact wfg_st hG17 (by decide) (show WF (sU (Gn16 0) 4 p1.toNatClampNeg (f_X5_withBit ((Gn16 0) 4 p1.toNatClampNeg) p2 p3)) from hG17.1 0 (by decide)))
        refine lv_aload_n hx hb dX5_setOwner_64 rfl (lv_at hl 0 rfl) ?_
        refine va_get (D := (dC, dI)) (ci := 5) (v := .ref (a 1)) (C := RX5) (T := TX5) (N := 5) hx hb hts hin5 hown hK hP 0 rfl rfl 0 (by decide) (hts (.fieldLink RX5 12 "FeedDesk" "now" "LFeedDesk$State;") (List.mem_of_getElem? (i := 2) rfl)) (fun _ h9 => h9) rfl dX5_setOwner_65 ?_
        refine va_getN (D := (dC, dI)) (ci := 4) (v := .ref (a 6)) (C := RX4) (T := TX4) (N := 18) hx hb hts hin4 hown hK hP 1 rfl rfl 7 (by decide) (va_Nw.use rfl (hN.at 23 rfl)) (fun _ h9 => h9) rfl dX5_setOwner_68 ?_
        refine lv_iload_n hx hb dX5_setOwner_71 rfl (lv_at hl 1 rfl) ?_
        refine va_iald (f := (Gn21 0) 4) hx hb hK hP 6 0 rfl rfl (below_vp (n := 4) c4) dX5_setOwner_72 ?_
        have hFc : ∀ q : Nat, va_A [] H20.size q → (va_A (cDk a cI cC cS G) s.heap.size) q := roF hS hA
        refine va_calli (va_runS (As := [.int ((Gn21 0) 4 p1.toNatClampNeg)]) (rest := []) ⟨hx, hb, hml, hown, hts⟩ (c_J6_bitCount_0f7a4 l dC dI cI cC cS H20.size ((Gn21 0) 4 p1.toNatClampNeg)) (va_cwS 1 hts gX5_setOwner_J6_bitCount_0f7a4 rfl rfl rfl (by decide +kernel) ⟨Nat.le_of_ble_eq_true rfl, Nat.le_of_ble_eq_true rfl⟩) (pS hK (va_P_nil) (va_D_nil) hN) rfl rfl hl.1 rfl (lv_room (Nat.le_of_ble_eq_true rfl)) dX5_setOwner_73 ⟨Nat.le_of_ble_eq_true rfl, Nat.le_of_ble_eq_true rfl⟩) hS (fun q _ h => hFc q h) hFc (fun r_23 u_23 t_23 H24 locs ht hvm hw hB hz1 hk1 hS => ?_)
        subst hw
        have hP := ro_keep hP hk1
        exact W.iret (v := f_J6_bitCount_0f7a4 ((Gn21 0) 4 p1.toNatClampNeg)) hx hb hr (fun t ht hWw => ⟨⟨f_J6_bitCount_0f7a4 ((Gn21 0) 4 p1.toNatClampNeg), Gn21, rfl, ⟨hR.symm.trans eR, hG22⟩, by rw [ht]; exact hP, hD⟩, hS.F ht⟩) hS.2.2 dX5_setOwner_76
      · rw [if_pos c12] at hR
        refine lv_iconst (v := (-1)) hx hb dX5_setOwner_28 (by decide) ?_
        exact W.iret (v := (-1)) hx hb hr (fun t ht hWw => ⟨⟨(-1), G, rfl, ⟨hR.symm.trans eR, hG⟩, by rw [ht]; exact hP, hD⟩, hS.F ht⟩) hS.2.2 dX5_setOwner_29
    · rw [if_pos c8] at hR
      refine lv_iconst (v := (-1)) hx hb dX5_setOwner_17 (by decide) ?_
      exact W.iret (v := (-1)) hx hb hr (fun t ht hWw => ⟨⟨(-1), G, rfl, ⟨hR.symm.trans eR, hG⟩, by rw [ht]; exact hP, hD⟩, hS.F ht⟩) hS.2.2 dX5_setOwner_18
abbrev rm_X5_setReturn : Room := { frames := 4, cells := 0, slots := 0, locals := 81 }
def f_X5_setReturn_p43 (p1 : Int32) (p2 : Int32)    (G_43 : GR) : Int32 × GR := sLet ((f_X1_keep G_43)) (fun Gn14 : GR => sLet (va_up Gn14 0 (sU (Gn14 0) 5 p1.toNatClampNeg p2)) (fun Gn17 : GR => ((Gn14 0) 5 p1.toNatClampNeg, Gn17)))
def f_X5_setReturn (G : GR) (p1 : Int32) (p2 : Int32) : Int32 × GR := (if (f_X5_isBelow p1 4) = 0 then ((-1), G) else (if (f_X5_isWithin p2 (-1) 11) = 0 then ((-1), G) else (if (f_X4_feedBackInto (G 0) p2) = (-99) then f_X5_setReturn_p43 p1 p2 G else (if (f_X4_feedBackInto (G 0) p2) = p1 then f_X5_setReturn_p43 p1 p2 G else ((-2), G)))))
set_option maxHeartbeats 4000000 in
set_option maxRecDepth 100000 in
theorem c_X5_setReturn (l : Launch) (dC : Nat → ClassId) (dI : Nat → Nat → Nat) (cI cC cS : ClassId) (a : Nat → Nat) (G : GR) (sz : Nat) (p1 : Int32) (p2 : Int32) (hG : WFG G) : Met l yX5_setReturn wsX5_setReturn rm_X5_setReturn (PcG (dC, dI) (tyL cI cC cS) (cDk a cI cC cS G) sz [.ref (a 0), .int p1, .int p2]) (va_Qi (fun (r : Int32) (u : GR) => (r, u) = f_X5_setReturn G p1 p2 ∧ (WFG u)) (fun u U => va_P (dC, dI) vwCl (cDk a cI cC cS u) U.heap ∧ va_D (va_A (cDk a cI cC cS G) sz) (cDk a cI cC cS u)) (va_A (cDk a cI cC cS G) sz)) 0 0 (va_A (cDk a cI cC cS G) sz) := by
  refine Met.ofW (cc := cX5_setReturn) (maxL := 5) (ret := (some .int)) (by decide) rfl ?_
  intro p e s m args below meth c s₁ B hml hv
  obtain ⟨rfl, hsz, hP, hK, hD0, hN⟩ := hv
  have hx := B.exec
  have hb := B.bytes
  have hr := B.returns
  have hts := atoms_spec (ws := wsX5_setReturn) B.pre
  have hown : s.vm.findClass RX5 = some m.cls := findClass_of_methodNamed B.named
  have hlocks := B.notSynchronized
  subst hsz
  have hD := hD0.self (sz := s.heap.size)
  have hA : ∀ q : Nat, s.heap.size ≤ q → (va_A (cDk a cI cC cS G) s.heap.size) q := fun q h => Or.inr h
  have hS : va_S (va_A (cDk a cI cC cS G) s.heap.size) s.heap s.heap [] := va_S.rf
  have hin5 : ∀ w ∈ wsX50, w ∈ wsX5_setReturn := fun _ h => List.mem_cons_of_mem _ (List.mem_append_left _ (List.mem_append_left _ (List.mem_append_left _ (List.mem_append_right _ h))))
  have hin4 : ∀ w ∈ wsX40, w ∈ wsX5_setReturn := fun _ h => List.mem_cons_of_mem _ (List.mem_append_left _ (List.mem_append_left _ (List.mem_append_right _ h)))
  have hl := lv_entry [.ref (a 0), .int p1, .int p2] (n := 5) (Nat.le_of_ble_eq_true rfl)
  rw [lg_entry_eq]
  generalize (lg_sl [.ref (a 0), .int p1, .int p2] ++ List.replicate (5 - (lg_sl [.ref (a 0), .int p1, .int p2]).length) Slot.unset).toArray = ls at hl ⊢
  have hl : lv_has ls 5 [(0, .ref (a 0)), (1, .int p1), (2, .int p2)] := hl
  obtain ⟨R0, eR⟩ : ∃ z, z = f_X5_setReturn G p1 p2 := ⟨_, rfl⟩
  have hR := eR
  rw [f_X5_setReturn] at hR
  refine lv_iload_n hx hb dX5_setReturn_0 rfl (lv_at hl 1 rfl) ?_
  refine lv_iconst (v := 4) hx hb dX5_setReturn_1 (by decide) ?_
  have hFc : ∀ q : Nat, va_A [] s.heap.size q → (va_A (cDk a cI cC cS G) s.heap.size) q := roF hS hA
  refine va_calli (va_runS (As := [.int p1, .int 4]) (rest := []) ⟨hx, hb, hml, hown, hts⟩ (c_X5_isBelow l dC dI cI cC cS s.heap.size p1 4) (va_cwS 2 hts gX5_setReturn_X5_isBelow rfl rfl rfl (by decide +kernel) ⟨Nat.le_of_ble_eq_true rfl, Nat.le_of_ble_eq_true rfl⟩) (pS hK (va_P_nil) (va_D_nil) hN) rfl rfl hl.1 rfl (lv_room (Nat.le_of_ble_eq_true rfl)) dX5_setReturn_2 ⟨Nat.le_of_ble_eq_true rfl, Nat.le_of_ble_eq_true rfl⟩) hS (fun q _ h => hFc q h) hFc (fun r_1 u_1 t_1 H2 locs ht hvm hw hB hz1 hk1 hS => ?_)
  obtain ⟨hw, hre3⟩ := hw
  subst hw
  have hP := ro_keep hP hk1
  refine lv_if_eq (tgt := 18) hx hb dX5_setReturn_5 (by decide) (fun c4 => ?_) (fun c4 => ?_)
  · rw [if_pos c4] at hR
    refine lv_iconst (v := (-1)) hx hb dX5_setReturn_18 (by decide) ?_
    exact W.iret (v := (-1)) hx hb hr (fun t ht hWw => ⟨⟨(-1), G, rfl, ⟨hR.symm.trans eR, hG⟩, by rw [ht]; exact hP, hD⟩, hS.F ht⟩) hS.2.2 dX5_setReturn_19
  · rw [if_neg c4] at hR
    refine lv_iload_n hx hb dX5_setReturn_8 rfl (lv_at hl 2 rfl) ?_
    refine lv_iconst (v := (-1)) hx hb dX5_setReturn_9 (by decide) ?_
    refine lv_bipush (v := 11) hx hb dX5_setReturn_10 (by decide) ?_
    have hFc : ∀ q : Nat, va_A [] H2.size q → (va_A (cDk a cI cC cS G) s.heap.size) q := roF hS hA
    refine va_calli (va_runS (As := [.int p2, .int (-1), .int 11]) (rest := []) ⟨hx, hb, hml, hown, hts⟩ (c_X5_isWithin l dC dI cI cC cS H2.size p2 (-1) 11) (va_cwS 3 hts gX5_setReturn_X5_isWithin rfl rfl rfl (by decide +kernel) ⟨Nat.le_of_ble_eq_true rfl, Nat.le_of_ble_eq_true rfl⟩) (pS hK (va_P_nil) (va_D_nil) hN) rfl rfl hl.1 rfl (lv_room (Nat.le_of_ble_eq_true rfl)) dX5_setReturn_12 ⟨Nat.le_of_ble_eq_true rfl, Nat.le_of_ble_eq_true rfl⟩) hS (fun q _ h => hFc q h) hFc (fun r_5 u_5 t_5 H6 locs ht hvm hw hB hz1 hk1 hS => ?_)
    obtain ⟨hw, hre7⟩ := hw
    subst hw
    have hP := ro_keep hP hk1
    refine lv_if_ne (tgt := 20) hx hb dX5_setReturn_15 (by decide) (fun c8 => ?_) (fun c8 => ?_)
    · rw [if_neg c8] at hR
      refine lv_aload_n hx hb dX5_setReturn_20 rfl (lv_at hl 0 rfl) ?_
      refine va_get (D := (dC, dI)) (ci := 5) (v := .ref (a 1)) (C := RX5) (T := TX5) (N := 5) hx hb hts hin5 hown hK hP 0 rfl rfl 0 (by decide) (hts (.fieldLink RX5 12 "FeedDesk" "now" "LFeedDesk$State;") (List.mem_of_getElem? (i := 1) rfl)) (fun _ h9 => h9) rfl dX5_setReturn_21 ?_
      refine lv_iload_n hx hb dX5_setReturn_24 rfl (lv_at hl 2 rfl) ?_
      have hPc : va_P (dC, dI) vwCl (cSt (fun j => a (1 + j)) cI (G 0)) H6 := hP.sub [1, 2, 3, 4, 5, 6, 7, 8, 9, 10, 11, 12] rfl
      have hDc : va_D (va_A (cDk a cI cC cS G) s.heap.size) (cSt (fun j => a (1 + j)) cI (G 0)) := hD.sub [1, 2, 3, 4, 5, 6, 7, 8, 9, 10, 11, 12] (by decide) rfl
      have hFc : ∀ q : Nat, va_A [] H6.size q → (va_A (cDk a cI cC cS G) s.heap.size) q := roF hS hA
      refine va_calli (va_runV (As := [.int p2]) (rest := []) ⟨hx, hb, hml, hown, hts⟩ (c_X4_feedBackInto l dC dI cI cC cS (fun j => a (1 + j)) (G 0) H6.size p2) (cwV 1 hts gX5_setReturn_X4_feedBackInto rfl rfl rfl (by decide +kernel) ⟨Nat.le_of_ble_eq_true rfl, Nat.le_of_ble_eq_true rfl⟩) (pV (q0 := 0) hK hPc hDc hN rfl rfl) rfl rfl hl.1 rfl (lv_room (Nat.le_of_ble_eq_true rfl)) dX5_setReturn_25 ⟨Nat.le_of_ble_eq_true rfl, Nat.le_of_ble_eq_true rfl⟩) hS (fun q _ h => hFc q h) hFc (fun r_9 u_9 t_9 H10 locs ht hvm hw hB hz1 hk1 hS => ?_)
      subst hw
      have hP := ro_keep hP hk1
      refine lv_istore_n (lv' := [(3, .int (f_X4_feedBackInto (G 0) p2)), (0, .ref (a 0)), (1, .int p1), (2, .int p2)]) hx hb dX5_setReturn_28 rfl hl (by decide) rfl (fun ls hl => ?_)
      refine lv_iload_n hx hb dX5_setReturn_29 rfl (lv_at hl 0 rfl) ?_
      refine lv_bipush (v := (-99)) hx hb dX5_setReturn_30 (by decide) ?_
      have hJ_43 : ∀   (G_43 : GR), WFG G_43 → R0 = f_X5_setReturn_p43 p1 p2 G_43 → ∀ (H : Heap) (locs : List Loc) (ls : Array Slot), va_P (dC, dI) vwCl (cDk a cI cC cS G_43) H → va_D (va_A (cDk a cI cC cS G) s.heap.size) (cDk a cI cC cS G_43) → va_S (va_A (cDk a cI cC cS G) s.heap.size) s.heap H locs → lv_has ls 5 [(0, .ref (a 0)), (1, .int p1), (2, .int p2)] → W p l e (headSpec wsX5_setReturn rm_X5_setReturn).room s m ([.ref (a 0), .int p1, .int p2] : List Value).toArray below meth c H locs 0 0 (MQ below (va_Qi (fun (r : Int32) (u : GR) => (r, u) = f_X5_setReturn G p1 p2 ∧ (WFG u)) (fun u U => va_P (dC, dI) vwCl (cDk a cI cC cS u) U.heap ∧ va_D (va_A (cDk a cI cC cS G) s.heap.size) (cDk a cI cC cS u)) (va_A (cDk a cI cC cS G) s.heap.size)) ([.ref (a 0), .int p1, .int p2] : List Value).toArray s 0 0 (va_A (cDk a cI cC cS G) s.heap.size)) (F0 m 43 ls []) := by
        intro G_43 hG_43 hR H locs ls hP hD hS hl
        rw [f_X5_setReturn_p43] at hR
        refine lv_aload_n hx hb dX5_setReturn_43 rfl (lv_at hl 0 rfl) ?_
        refine va_get (D := (dC, dI)) (ci := 5) (v := .ref (a 25)) (C := RX5) (T := TX5) (N := 5) hx hb hts hin5 hown hK hP 0 rfl rfl 2 (by decide) (hts (.fieldLink RX5 22 "FeedDesk" "history" "LFeedDesk$History;") (List.mem_of_getElem? (i := 2) rfl)) (fun _ h9 => h9) rfl dX5_setReturn_44 ?_
        refine lv_aload_n hx hb dX5_setReturn_47 rfl (lv_at hl 0 rfl) ?_
        refine va_get (D := (dC, dI)) (ci := 5) (v := .ref (a 1)) (C := RX5) (T := TX5) (N := 5) hx hb hts hin5 hown hK hP 0 rfl rfl 0 (by decide) (hts (.fieldLink RX5 12 "FeedDesk" "now" "LFeedDesk$State;") (List.mem_of_getElem? (i := 1) rfl)) (fun _ h9 => h9) rfl dX5_setReturn_48 ?_
        have hPc : va_P (dC, dI) vwCl (cDk a cI cC cS G_43) H := hP.sub [0, 1, 2, 3, 4, 5, 6, 7, 8, 9, 10, 11, 12, 13, 14, 15, 16, 17, 18, 19, 20, 21, 22, 23, 24, 25, 26, 27, 28, 29, 30, 31, 32, 33, 34, 35, 36, 37, 38, 39, 40, 41, 42, 43, 44, 45, 46, 47, 48, 49, 50, 51, 52, 53, 54, 55, 56, 57, 58, 59, 60, 61, 62, 63, 64, 65, 66, 67, 68, 69, 70, 71, 72, 73, 74, 75, 76, 77, 78, 79, 80, 81, 82, 83, 84, 85, 86, 87, 88, 89, 90, 91, 92] rfl
        have hDc : va_D (va_A (cDk a cI cC cS G) s.heap.size) (cDk a cI cC cS G_43) := hD.sub [0, 1, 2, 3, 4, 5, 6, 7, 8, 9, 10, 11, 12, 13, 14, 15, 16, 17, 18, 19, 20, 21, 22, 23, 24, 25, 26, 27, 28, 29, 30, 31, 32, 33, 34, 35, 36, 37, 38, 39, 40, 41, 42, 43, 44, 45, 46, 47, 48, 49, 50, 51, 52, 53, 54, 55, 56, 57, 58, 59, 60, 61, 62, 63, 64, 65, 66, 67, 68, 69, 70, 71, 72, 73, 74, 75, 76, 77, 78, 79, 80, 81, 82, 83, 84, 85, 86, 87, 88, 89, 90, 91, 92] (by decide) rfl
        have hFc : ∀ q : Nat, va_A (cDk a cI cC cS G_43) H.size q → (va_A (cDk a cI cC cS G) s.heap.size) q := va_free hD hS hA [0, 1, 2, 3, 4, 5, 6, 7, 8, 9, 10, 11, 12, 13, 14, 15, 16, 17, 18, 19, 20, 21, 22, 23, 24, 25, 26, 27, 28, 29, 30, 31, 32, 33, 34, 35, 36, 37, 38, 39, 40, 41, 42, 43, 44, 45, 46, 47, 48, 49, 50, 51, 52, 53, 54, 55, 56, 57, 58, 59, 60, 61, 62, 63, 64, 65, 66, 67, 68, 69, 70, 71, 72, 73, 74, 75, 76, 77, 78, 79, 80, 81, 82, 83, 84, 85, 86, 87, 88, 89, 90, 91, 92] rfl
        refine va_callv (va_runV (As := [.ref (a 1)]) (rest := []) ⟨hx, hb, hml, hown, hts⟩ (c_X1_keep l dC dI cI cC cS a G_43 H.size hG_43) (cwV 1 hts gX5_setReturn_X1_keep rfl rfl rfl (by decide +kernel) ⟨Nat.le_of_ble_eq_true rfl, Nat.le_of_ble_eq_true rfl⟩) (pV (q0 := 25) hK hPc hDc hN rfl rfl) rfl rfl hl.1 rfl (lv_room (Nat.le_of_ble_eq_true rfl)) dX5_setReturn_51 ⟨Nat.le_of_ble_eq_true rfl, Nat.le_of_ble_eq_true rfl⟩) hS (fun q _ h => hFc q h) hFc (fun u_11 t_11 H12 locs ht hvm hw hB hz1 hk1 hS => ?_)
        obtain ⟨hw, hens13⟩ := hw
        obtain ⟨hP1, hD1⟩ := hB
        rw [ht] at hP1
        subst hw
        obtain ⟨hP, hD⟩ := va_join (wc := cDk a cI cC cS G_43) (wr := []) (w1 := cDk a cI cC cS (f_X1_keep G_43)) hP hD [0, 1, 2, 3, 4, 5, 6, 7, 8, 9, 10, 11, 12, 13, 14, 15, 16, 17, 18, 19, 20, 21, 22, 23, 24, 25, 26, 27, 28, 29, 30, 31, 32, 33, 34, 35, 36, 37, 38, 39, 40, 41, 42, 43, 44, 45, 46, 47, 48, 49, 50, 51, 52, 53, 54, 55, 56, 57, 58, 59, 60, 61, 62, 63, 64, 65, 66, 67, 68, 69, 70, 71, 72, 73, 74, 75, 76, 77, 78, 79, 80, 81, 82, 83, 84, 85, 86, 87, 88, 89, 90, 91, 92] [] rfl rfl (by decide) (by decide) hk1 hFc hP1 hD1
        have hP : va_P (dC, dI) vwCl (cDk a cI cC cS (f_X1_keep G_43)) H12 := hP.sub [0, 1, 2, 3, 4, 5, 6, 7, 8, 9, 10, 11, 12, 13, 14, 15, 16, 17, 18, 19, 20, 21, 22, 23, 24, 25, 26, 27, 28, 29, 30, 31, 32, 33, 34, 35, 36, 37, 38, 39, 40, 41, 42, 43, 44, 45, 46, 47, 48, 49, 50, 51, 52, 53, 54, 55, 56, 57, 58, 59, 60, 61, 62, 63, 64, 65, 66, 67, 68, 69, 70, 71, 72, 73, 74, 75, 76, 77, 78, 79, 80, 81, 82, 83, 84, 85, 86, 87, 88, 89, 90, 91, 92] rfl
        have hD : va_D (va_A (cDk a cI cC cS G) s.heap.size) (cDk a cI cC cS (f_X1_keep G_43)) := hD.sub [0, 1, 2, 3, 4, 5, 6, 7, 8, 9, 10, 11, 12, 13, 14, 15, 16, 17, 18, 19, 20, 21, 22, 23, 24, 25, 26, 27, 28, 29, 30, 31, 32, 33, 34, 35, 36, 37, 38, 39, 40, 41, 42, 43, 44, 45, 46, 47, 48, 49, 50, 51, 52, 53, 54, 55, 56, 57, 58, 59, 60, 61, 62, 63, 64, 65, 66, 67, 68, 69, 70, 71, 72, 73, 74, 75, 76, 77, 78, 79, 80, 81, 82, 83, 84, 85, 86, 87, 88, 89, 90, 91, 92] (by decide) rfl
        obtain ⟨Gn14, eGn14⟩ : ∃ z : GR, z = (f_X1_keep G_43) := ⟨_, rfl⟩
        rw [sLet_eq, ← eGn14] at hR
        rw [← eGn14] at hP hD
        have hG15 : WFG Gn14 := by rw [eGn14]; exact hens13
        refine lv_aload_n hx hb dX5_setReturn_54 rfl (lv_at hl 0 rfl) ?_
        refine va_get (D := (dC, dI)) (ci := 5) (v := .ref (a 1)) (C := RX5) (T := TX5) (N := 5) hx hb hts hin5 hown hK hP 0 rfl rfl 0 (by decide) (hts (.fieldLink RX5 12 "FeedDesk" "now" "LFeedDesk$State;") (List.mem_of_getElem? (i := 1) rfl)) (fun _ h9 => h9) rfl dX5_setReturn_55 ?_
        refine va_getN (D := (dC, dI)) (ci := 4) (v := .ref (a 7)) (C := RX4) (T := TX4) (N := 18) hx hb hts hin4 hown hK hP 1 rfl rfl 8 (by decide) (va_Nw.use rfl (hN.at 25 rfl)) (fun _ h9 => h9) rfl dX5_setReturn_58 ?_
        refine lv_iload_n hx hb dX5_setReturn_61 rfl (lv_at hl 1 rfl) ?_
        refine va_iald (f := (Gn14 0) 5) hx hb hK hP 7 0 rfl rfl (below_vp (n := 4) c4) dX5_setReturn_62 ?_
        refine lv_istore (lv' := [(4, .int ((Gn14 0) 5 p1.toNatClampNeg)), (0, .ref (a 0)), (1, .int p1), (2, .int p2)]) hx hb dX5_setReturn_63 hl (by decide) rfl (fun ls hl => ?_)
        refine lv_aload_n hx hb dX5_setReturn_65 rfl (lv_at hl 1 rfl) ?_
        refine va_get (D := (dC, dI)) (ci := 5) (v := .ref (a 1)) (C := RX5) (T := TX5) (N := 5) hx hb hts hin5 hown hK hP 0 rfl rfl 0 (by decide) (hts (.fieldLink RX5 12 "FeedDesk" "now" "LFeedDesk$State;") (List.mem_of_getElem? (i := 1) rfl)) (fun _ h9 => h9) rfl dX5_setReturn_66 ?_
        refine va_getN (D := (dC, dI)) (ci := 4) (v := .ref (a 7)) (C := RX4) (T := TX4) (N := 18) hx hb hts hin4 hown hK hP 1 rfl rfl 8 (by decide) (va_Nw.use rfl (hN.at 25 rfl)) (fun _ h9 => h9) rfl dX5_setReturn_69 ?_
        refine lv_iload_n hx hb dX5_setReturn_72 rfl (lv_at hl 2 rfl) ?_
        refine lv_iload_n hx hb dX5_setReturn_73 rfl (lv_at hl 3 rfl) ?_
        refine va_iast (f := (Gn14 0) 5) hx hb hK hP hD hS 7 0 rfl rfl (below_vp (n := 4) c4) dX5_setReturn_74 (fun H16 locs hP hD hS => ?_)
        have hP : va_P (dC, dI) vwCl (cDk a cI cC cS (va_up Gn14 0 (sU (Gn14 0) 5 p1.toNatClampNeg p2))) H16 := hP
        have hD : va_D (va_A (cDk a cI cC cS G) s.heap.size) (cDk a cI cC cS (va_up Gn14 0 (sU (Gn14 0) 5 p1.toNatClampNeg p2))) := hD
        obtain ⟨Gn17, eGn17⟩ : ∃ z : GR, z = va_up Gn14 0 (sU (Gn14 0) 5 p1.toNatClampNeg p2) := ⟨_, rfl⟩
        rw [sLet_eq, ← eGn17] at hR
        rw [← eGn17] at hP hD
        have hG18 : WFG Gn17 := (by rw [eGn17]; exact wfg_st hG15 (by decide) (wf_setret (hG15.1 0 (by decide)) (within_m1 c8)))
        refine lv_iload hx hb dX5_setReturn_75 (lv_at hl 0 rfl) ?_
        exact W.iret (v := (Gn14 0) 5 p1.toNatClampNeg) hx hb hr (fun t ht hWw => ⟨⟨(Gn14 0) 5 p1.toNatClampNeg, Gn17, rfl, ⟨hR.symm.trans eR, hG18⟩, by rw [ht]; exact hP, hD⟩, hS.F ht⟩) hS.2.2 dX5_setReturn_77
      refine lv_icmp_eq (tgt := 43) hx hb dX5_setReturn_32 (by decide) (fun c19 => ?_) (fun c19 => ?_)
      · rw [if_pos c19] at hR
        exact hJ_43 G hG hR _ _ _ hP hD hS (lv_sub hl [1, 2, 3] rfl)
      · rw [if_neg c19] at hR
        refine lv_iload_n hx hb dX5_setReturn_35 rfl (lv_at hl 0 rfl) ?_
        refine lv_iload_n hx hb dX5_setReturn_36 rfl (lv_at hl 2 rfl) ?_
        refine lv_icmp_eq (tgt := 43) hx hb dX5_setReturn_37 (by decide) (fun c20 => ?_) (fun c20 => ?_)
        · rw [if_pos c20] at hR
          exact hJ_43 G hG hR _ _ _ hP hD hS (lv_sub hl [1, 2, 3] rfl)
        · rw [if_neg c20] at hR
          refine lv_bipush (v := (-2)) hx hb dX5_setReturn_40 (by decide) ?_
          exact W.iret (v := (-2)) hx hb hr (fun t ht hWw => ⟨⟨(-2), G, rfl, ⟨hR.symm.trans eR, hG⟩, by rw [ht]; exact hP, hD⟩, hS.F ht⟩) hS.2.2 dX5_setReturn_42
    · rw [if_pos c8] at hR
      refine lv_iconst (v := (-1)) hx hb dX5_setReturn_18 (by decide) ?_
      exact W.iret (v := (-1)) hx hb hr (fun t ht hWw => ⟨⟨(-1), G, rfl, ⟨hR.symm.trans eR, hG⟩, by rw [ht]; exact hP, hD⟩, hS.F ht⟩) hS.2.2 dX5_setReturn_19
abbrev rm_X5_store : Room := { frames := 4, cells := 0, slots := 0, locals := 81 }
def f_X5_store (G : GR) (p1 : Int32) : Int32 × GR := (if (f_X5_isBelow p1 6) = 0 then ((-1), G) else sLet ((f_X1_keep G)) (fun Gn8 : GR => sLet (va_up Gn8 0 (f_X4_keepScene (Gn8 0) p1)) (fun Gn13 : GR => (f_J6_bitCount_0f7a4 ((Gn13 0) 10 7), Gn13))))
set_option maxHeartbeats 4000000 in
set_option maxRecDepth 100000 in
theorem c_X5_store (l : Launch) (dC : Nat → ClassId) (dI : Nat → Nat → Nat) (cI cC cS : ClassId) (a : Nat → Nat) (G : GR) (sz : Nat) (p1 : Int32) (hG : WFG G) : Met l yX5_store wsX5_store rm_X5_store (PcG (dC, dI) (tyL cI cC cS) (cDk a cI cC cS G) sz [.ref (a 0), .int p1]) (va_Qi (fun (r : Int32) (u : GR) => (r, u) = f_X5_store G p1 ∧ (WFG u)) (fun u U => va_P (dC, dI) vwCl (cDk a cI cC cS u) U.heap ∧ va_D (va_A (cDk a cI cC cS G) sz) (cDk a cI cC cS u)) (va_A (cDk a cI cC cS G) sz)) 0 0 (va_A (cDk a cI cC cS G) sz) := by
  refine Met.ofW (cc := cX5_store) (maxL := 2) (ret := (some .int)) (by decide) rfl ?_
  intro p e s m args below meth c s₁ B hml hv
  obtain ⟨rfl, hsz, hP, hK, hD0, hN⟩ := hv
  have hx := B.exec
  have hb := B.bytes
  have hr := B.returns
  have hts := atoms_spec (ws := wsX5_store) B.pre
  have hown : s.vm.findClass RX5 = some m.cls := findClass_of_methodNamed B.named
  have hlocks := B.notSynchronized
  subst hsz
  have hD := hD0.self (sz := s.heap.size)
  have hA : ∀ q : Nat, s.heap.size ≤ q → (va_A (cDk a cI cC cS G) s.heap.size) q := fun q h => Or.inr h
  have hS : va_S (va_A (cDk a cI cC cS G) s.heap.size) s.heap s.heap [] := va_S.rf
  have hin5 : ∀ w ∈ wsX50, w ∈ wsX5_store := fun _ h => List.mem_cons_of_mem _ (List.mem_append_left _ (List.mem_append_left _ (List.mem_append_left _ (List.mem_append_right _ h))))
  have hin4 : ∀ w ∈ wsX40, w ∈ wsX5_store := fun _ h => List.mem_cons_of_mem _ (List.mem_append_left _ (List.mem_append_left _ (List.mem_append_right _ h)))
  have hl := lv_entry [.ref (a 0), .int p1] (n := 2) (Nat.le_of_ble_eq_true rfl)
  rw [lg_entry_eq]
  generalize (lg_sl [.ref (a 0), .int p1] ++ List.replicate (2 - (lg_sl [.ref (a 0), .int p1]).length) Slot.unset).toArray = ls at hl ⊢
  have hl : lv_has ls 2 [(0, .ref (a 0)), (1, .int p1)] := hl
  obtain ⟨R0, eR⟩ : ∃ z, z = f_X5_store G p1 := ⟨_, rfl⟩
  have hR := eR
  rw [f_X5_store] at hR
  refine lv_iload_n hx hb dX5_store_0 rfl (lv_at hl 1 rfl) ?_
  refine lv_bipush (v := 6) hx hb dX5_store_1 (by decide) ?_
  have hFc : ∀ q : Nat, va_A [] s.heap.size q → (va_A (cDk a cI cC cS G) s.heap.size) q := roF hS hA
  refine va_calli (va_runS (As := [.int p1, .int 6]) (rest := []) ⟨hx, hb, hml, hown, hts⟩ (c_X5_isBelow l dC dI cI cC cS s.heap.size p1 6) (va_cwS 2 hts gX5_store_X5_isBelow rfl rfl rfl (by decide +kernel) ⟨Nat.le_of_ble_eq_true rfl, Nat.le_of_ble_eq_true rfl⟩) (pS hK (va_P_nil) (va_D_nil) hN) rfl rfl hl.1 rfl (lv_room (Nat.le_of_ble_eq_true rfl)) dX5_store_3 ⟨Nat.le_of_ble_eq_true rfl, Nat.le_of_ble_eq_true rfl⟩) hS (fun q _ h => hFc q h) hFc (fun r_1 u_1 t_1 H2 locs ht hvm hw hB hz1 hk1 hS => ?_)
  obtain ⟨hw, hre3⟩ := hw
  subst hw
  have hP := ro_keep hP hk1
  refine lv_if_ne (tgt := 11) hx hb dX5_store_6 (by decide) (fun c4 => ?_) (fun c4 => ?_)
  · rw [if_neg c4] at hR
    refine lv_aload_n hx hb dX5_store_11 rfl (lv_at hl 0 rfl) ?_
    refine va_get (D := (dC, dI)) (ci := 5) (v := .ref (a 25)) (C := RX5) (T := TX5) (N := 5) hx hb hts hin5 hown hK hP 0 rfl rfl 2 (by decide) (hts (.fieldLink RX5 22 "FeedDesk" "history" "LFeedDesk$History;") (List.mem_of_getElem? (i := 1) rfl)) (fun _ h9 => h9) rfl dX5_store_12 ?_
    refine lv_aload_n hx hb dX5_store_15 rfl (lv_at hl 0 rfl) ?_
    refine va_get (D := (dC, dI)) (ci := 5) (v := .ref (a 1)) (C := RX5) (T := TX5) (N := 5) hx hb hts hin5 hown hK hP 0 rfl rfl 0 (by decide) (hts (.fieldLink RX5 12 "FeedDesk" "now" "LFeedDesk$State;") (List.mem_of_getElem? (i := 2) rfl)) (fun _ h9 => h9) rfl dX5_store_16 ?_
    have hPc : va_P (dC, dI) vwCl (cDk a cI cC cS G) H2 := hP.sub [0, 1, 2, 3, 4, 5, 6, 7, 8, 9, 10, 11, 12, 13, 14, 15, 16, 17, 18, 19, 20, 21, 22, 23, 24, 25, 26, 27, 28, 29, 30, 31, 32, 33, 34, 35, 36, 37, 38, 39, 40, 41, 42, 43, 44, 45, 46, 47, 48, 49, 50, 51, 52, 53, 54, 55, 56, 57, 58, 59, 60, 61, 62, 63, 64, 65, 66, 67, 68, 69, 70, 71, 72, 73, 74, 75, 76, 77, 78, 79, 80, 81, 82, 83, 84, 85, 86, 87, 88, 89, 90, 91, 92] rfl
    have hDc : va_D (va_A (cDk a cI cC cS G) s.heap.size) (cDk a cI cC cS G) := hD.sub [0, 1, 2, 3, 4, 5, 6, 7, 8, 9, 10, 11, 12, 13, 14, 15, 16, 17, 18, 19, 20, 21, 22, 23, 24, 25, 26, 27, 28, 29, 30, 31, 32, 33, 34, 35, 36, 37, 38, 39, 40, 41, 42, 43, 44, 45, 46, 47, 48, 49, 50, 51, 52, 53, 54, 55, 56, 57, 58, 59, 60, 61, 62, 63, 64, 65, 66, 67, 68, 69, 70, 71, 72, 73, 74, 75, 76, 77, 78, 79, 80, 81, 82, 83, 84, 85, 86, 87, 88, 89, 90, 91, 92] (by decide) rfl
    have hFc : ∀ q : Nat, va_A (cDk a cI cC cS G) H2.size q → (va_A (cDk a cI cC cS G) s.heap.size) q := va_free hD hS hA [0, 1, 2, 3, 4, 5, 6, 7, 8, 9, 10, 11, 12, 13, 14, 15, 16, 17, 18, 19, 20, 21, 22, 23, 24, 25, 26, 27, 28, 29, 30, 31, 32, 33, 34, 35, 36, 37, 38, 39, 40, 41, 42, 43, 44, 45, 46, 47, 48, 49, 50, 51, 52, 53, 54, 55, 56, 57, 58, 59, 60, 61, 62, 63, 64, 65, 66, 67, 68, 69, 70, 71, 72, 73, 74, 75, 76, 77, 78, 79, 80, 81, 82, 83, 84, 85, 86, 87, 88, 89, 90, 91, 92] rfl
    refine va_callv (va_runV (As := [.ref (a 1)]) (rest := []) ⟨hx, hb, hml, hown, hts⟩ (c_X1_keep l dC dI cI cC cS a G H2.size hG) (cwV 1 hts gX5_store_X1_keep rfl rfl rfl (by decide +kernel) ⟨Nat.le_of_ble_eq_true rfl, Nat.le_of_ble_eq_true rfl⟩) (pV (q0 := 25) hK hPc hDc hN rfl rfl) rfl rfl hl.1 rfl (lv_room (Nat.le_of_ble_eq_true rfl)) dX5_store_19 ⟨Nat.le_of_ble_eq_true rfl, Nat.le_of_ble_eq_true rfl⟩) hS (fun q _ h => hFc q h) hFc (fun u_5 t_5 H6 locs ht hvm hw hB hz1 hk1 hS => ?_)
    obtain ⟨hw, hens7⟩ := hw
    obtain ⟨hP1, hD1⟩ := hB
    rw [ht] at hP1
    subst hw
    obtain ⟨hP, hD⟩ := va_join (wc := cDk a cI cC cS G) (wr := []) (w1 := cDk a cI cC cS (f_X1_keep G)) hP hD [0, 1, 2, 3, 4, 5, 6, 7, 8, 9, 10, 11, 12, 13, 14, 15, 16, 17, 18, 19, 20, 21, 22, 23, 24, 25, 26, 27, 28, 29, 30, 31, 32, 33, 34, 35, 36, 37, 38, 39, 40, 41, 42, 43, 44, 45, 46, 47, 48, 49, 50, 51, 52, 53, 54, 55, 56, 57, 58, 59, 60, 61, 62, 63, 64, 65, 66, 67, 68, 69, 70, 71, 72, 73, 74, 75, 76, 77, 78, 79, 80, 81, 82, 83, 84, 85, 86, 87, 88, 89, 90, 91, 92] [] rfl rfl (by decide) (by decide) hk1 hFc hP1 hD1
    have hP : va_P (dC, dI) vwCl (cDk a cI cC cS (f_X1_keep G)) H6 := hP.sub [0, 1, 2, 3, 4, 5, 6, 7, 8, 9, 10, 11, 12, 13, 14, 15, 16, 17, 18, 19, 20, 21, 22, 23, 24, 25, 26, 27, 28, 29, 30, 31, 32, 33, 34, 35, 36, 37, 38, 39, 40, 41, 42, 43, 44, 45, 46, 47, 48, 49, 50, 51, 52, 53, 54, 55, 56, 57, 58, 59, 60, 61, 62, 63, 64, 65, 66, 67, 68, 69, 70, 71, 72, 73, 74, 75, 76, 77, 78, 79, 80, 81, 82, 83, 84, 85, 86, 87, 88, 89, 90, 91, 92] rfl
    have hD : va_D (va_A (cDk a cI cC cS G) s.heap.size) (cDk a cI cC cS (f_X1_keep G)) := hD.sub [0, 1, 2, 3, 4, 5, 6, 7, 8, 9, 10, 11, 12, 13, 14, 15, 16, 17, 18, 19, 20, 21, 22, 23, 24, 25, 26, 27, 28, 29, 30, 31, 32, 33, 34, 35, 36, 37, 38, 39, 40, 41, 42, 43, 44, 45, 46, 47, 48, 49, 50, 51, 52, 53, 54, 55, 56, 57, 58, 59, 60, 61, 62, 63, 64, 65, 66, 67, 68, 69, 70, 71, 72, 73, 74, 75, 76, 77, 78, 79, 80, 81, 82, 83, 84, 85, 86, 87, 88, 89, 90, 91, 92] (by decide) rfl
    obtain ⟨Gn8, eGn8⟩ : ∃ z : GR, z = (f_X1_keep G) := ⟨_, rfl⟩
    rw [sLet_eq, ← eGn8] at hR
    rw [← eGn8] at hP hD
    have hG9 : WFG Gn8 := by rw [eGn8]; exact hens7
    refine lv_aload_n hx hb dX5_store_22 rfl (lv_at hl 0 rfl) ?_
    refine va_get (D := (dC, dI)) (ci := 5) (v := .ref (a 1)) (C := RX5) (T := TX5) (N := 5) hx hb hts hin5 hown hK hP 0 rfl rfl 0 (by decide) (hts (.fieldLink RX5 12 "FeedDesk" "now" "LFeedDesk$State;") (List.mem_of_getElem? (i := 2) rfl)) (fun _ h9 => h9) rfl dX5_store_23 ?_
    refine lv_iload_n hx hb dX5_store_26 rfl (lv_at hl 1 rfl) ?_
    have hPc : va_P (dC, dI) vwCl (cSt (fun j => a (1 + j)) cI (Gn8 0)) H6 := hP.sub [1, 2, 3, 4, 5, 6, 7, 8, 9, 10, 11, 12] rfl
    have hDc : va_D (va_A (cDk a cI cC cS G) s.heap.size) (cSt (fun j => a (1 + j)) cI (Gn8 0)) := hD.sub [1, 2, 3, 4, 5, 6, 7, 8, 9, 10, 11, 12] (by decide) rfl
    have hFc : ∀ q : Nat, va_A (cSt (fun j => a (1 + j)) cI (Gn8 0)) H6.size q → (va_A (cDk a cI cC cS G) s.heap.size) q := va_free hD hS hA [1, 2, 3, 4, 5, 6, 7, 8, 9, 10, 11, 12] rfl
    refine va_callv (va_runV (As := [.int p1]) (rest := []) ⟨hx, hb, hml, hown, hts⟩ (c_X4_keepScene l dC dI cI cC cS (fun j => a (1 + j)) (Gn8 0) H6.size p1 (below_vp (n := 6) c4) (hG9.1 0 (by decide))) (cwV 1 hts gX5_store_X4_keepScene rfl rfl rfl (by decide +kernel) ⟨Nat.le_of_ble_eq_true rfl, Nat.le_of_ble_eq_true rfl⟩) (pV (q0 := 0) hK hPc hDc hN rfl rfl) rfl rfl hl.1 rfl (lv_room (Nat.le_of_ble_eq_true rfl)) dX5_store_27 ⟨Nat.le_of_ble_eq_true rfl, Nat.le_of_ble_eq_true rfl⟩) hS (fun q _ h => hFc q h) hFc (fun u_10 t_10 H11 locs ht hvm hw hB hz1 hk1 hS => ?_)
    obtain ⟨hw, hens12⟩ := hw
    obtain ⟨hP1, hD1⟩ := hB
    rw [ht] at hP1
    subst hw
    obtain ⟨hP, hD⟩ := va_join (wc := cSt (fun j => a (1 + j)) cI (Gn8 0)) (wr := [(a 0, .inr (5, [.ref (a 1), .ref (a 13), .ref (a 25), .ref (a 87), .ref (a 91)])), (a 13, .inr (4, [.ref (a 14), .ref (a 15), .ref (a 16), .int ((Gn8 1) 10 0), .int ((Gn8 1) 10 1), .int ((Gn8 1) 10 2), .ref (a 17), .ref (a 18), .ref (a 19), .ref (a 20), .ref (a 21), .int ((Gn8 1) 10 3), .int ((Gn8 1) 10 4), .int ((Gn8 1) 10 5), .int ((Gn8 1) 10 6), .ref (a 22), .int ((Gn8 1) 10 7), .ref (a 23)])), (a 14, .inl (cI, 12, .inl ((Gn8 1) 0))), (a 15, .inl (cI, 16, .inl ((Gn8 1) 1))), (a 16, .inl (cI, 12, .inl ((Gn8 1) 2))), (a 17, .inl (cI, 48, .inl ((Gn8 1) 3))), (a 18, .inl (cI, 4, .inl ((Gn8 1) 4))), (a 19, .inl (cI, 4, .inl ((Gn8 1) 5))), (a 20, .inl (cI, 12, .inl ((Gn8 1) 6))), (a 21, .inl (cI, 4, .inl ((Gn8 1) 7))), (a 22, .inl (cI, 102, .inl ((Gn8 1) 8))), (a 23, .inr (0, [.int ((Gn8 1) 11 0), .int ((Gn8 1) 11 1), .int ((Gn8 1) 11 2), .int ((Gn8 1) 11 3), .ref (a 24)])), (a 24, .inl (cI, 16, .inl ((Gn8 1) 9))), (a 25, .inr (1, [.ref (a 26), .int ((Gn8 7) 0 0), .int ((Gn8 7) 0 1)])), (a 26, .inl (cS, 5, .inr (.inr (.inr (.inr (kf a)))))), (a 27, .inr (4, [.ref (a 28), .ref (a 29), .ref (a 30), .int ((Gn8 2) 10 0), .int ((Gn8 2) 10 1), .int ((Gn8 2) 10 2), .ref (a 31), .ref (a 32), .ref (a 33), .ref (a 34), .ref (a 35), .int ((Gn8 2) 10 3), .int ((Gn8 2) 10 4), .int ((Gn8 2) 10 5), .int ((Gn8 2) 10 6), .ref (a 36), .int ((Gn8 2) 10 7), .ref (a 37)])), (a 28, .inl (cI, 12, .inl ((Gn8 2) 0))), (a 29, .inl (cI, 16, .inl ((Gn8 2) 1))), (a 30, .inl (cI, 12, .inl ((Gn8 2) 2))), (a 31, .inl (cI, 48, .inl ((Gn8 2) 3))), (a 32, .inl (cI, 4, .inl ((Gn8 2) 4))), (a 33, .inl (cI, 4, .inl ((Gn8 2) 5))), (a 34, .inl (cI, 12, .inl ((Gn8 2) 6))), (a 35, .inl (cI, 4, .inl ((Gn8 2) 7))), (a 36, .inl (cI, 102, .inl ((Gn8 2) 8))), (a 37, .inr (0, [.int ((Gn8 2) 11 0), .int ((Gn8 2) 11 1), .int ((Gn8 2) 11 2), .int ((Gn8 2) 11 3), .ref (a 38)])), (a 38, .inl (cI, 16, .inl ((Gn8 2) 9))), (a 39, .inr (4, [.ref (a 40), .ref (a 41), .ref (a 42), .int ((Gn8 3) 10 0), .int ((Gn8 3) 10 1), .int ((Gn8 3) 10 2), .ref (a 43), .ref (a 44), .ref (a 45), .ref (a 46), .ref (a 47), .int ((Gn8 3) 10 3), .int ((Gn8 3) 10 4), .int ((Gn8 3) 10 5), .int ((Gn8 3) 10 6), .ref (a 48), .int ((Gn8 3) 10 7), .ref (a 49)])), (a 40, .inl (cI, 12, .inl ((Gn8 3) 0))), (a 41, .inl (cI, 16, .inl ((Gn8 3) 1))), (a 42, .inl (cI, 12, .inl ((Gn8 3) 2))), (a 43, .inl (cI, 48, .inl ((Gn8 3) 3))), (a 44, .inl (cI, 4, .inl ((Gn8 3) 4))), (a 45, .inl (cI, 4, .inl ((Gn8 3) 5))), (a 46, .inl (cI, 12, .inl ((Gn8 3) 6))), (a 47, .inl (cI, 4, .inl ((Gn8 3) 7))), (a 48, .inl (cI, 102, .inl ((Gn8 3) 8))), (a 49, .inr (0, [.int ((Gn8 3) 11 0), .int ((Gn8 3) 11 1), .int ((Gn8 3) 11 2), .int ((Gn8 3) 11 3), .ref (a 50)])), (a 50, .inl (cI, 16, .inl ((Gn8 3) 9))), (a 51, .inr (4, [.ref (a 52), .ref (a 53), .ref (a 54), .int ((Gn8 4) 10 0), .int ((Gn8 4) 10 1), .int ((Gn8 4) 10 2), .ref (a 55), .ref (a 56), .ref (a 57), .ref (a 58), .ref (a 59), .int ((Gn8 4) 10 3), .int ((Gn8 4) 10 4), .int ((Gn8 4) 10 5), .int ((Gn8 4) 10 6), .ref (a 60), .int ((Gn8 4) 10 7), .ref (a 61)])), (a 52, .inl (cI, 12, .inl ((Gn8 4) 0))), (a 53, .inl (cI, 16, .inl ((Gn8 4) 1))), (a 54, .inl (cI, 12, .inl ((Gn8 4) 2))), (a 55, .inl (cI, 48, .inl ((Gn8 4) 3))), (a 56, .inl (cI, 4, .inl ((Gn8 4) 4))), (a 57, .inl (cI, 4, .inl ((Gn8 4) 5))), (a 58, .inl (cI, 12, .inl ((Gn8 4) 6))), (a 59, .inl (cI, 4, .inl ((Gn8 4) 7))), (a 60, .inl (cI, 102, .inl ((Gn8 4) 8))), (a 61, .inr (0, [.int ((Gn8 4) 11 0), .int ((Gn8 4) 11 1), .int ((Gn8 4) 11 2), .int ((Gn8 4) 11 3), .ref (a 62)])), (a 62, .inl (cI, 16, .inl ((Gn8 4) 9))), (a 63, .inr (4, [.ref (a 64), .ref (a 65), .ref (a 66), .int ((Gn8 5) 10 0), .int ((Gn8 5) 10 1), .int ((Gn8 5) 10 2), .ref (a 67), .ref (a 68), .ref (a 69), .ref (a 70), .ref (a 71), .int ((Gn8 5) 10 3), .int ((Gn8 5) 10 4), .int ((Gn8 5) 10 5), .int ((Gn8 5) 10 6), .ref (a 72), .int ((Gn8 5) 10 7), .ref (a 73)])), (a 64, .inl (cI, 12, .inl ((Gn8 5) 0))), (a 65, .inl (cI, 16, .inl ((Gn8 5) 1))), (a 66, .inl (cI, 12, .inl ((Gn8 5) 2))), (a 67, .inl (cI, 48, .inl ((Gn8 5) 3))), (a 68, .inl (cI, 4, .inl ((Gn8 5) 4))), (a 69, .inl (cI, 4, .inl ((Gn8 5) 5))), (a 70, .inl (cI, 12, .inl ((Gn8 5) 6))), (a 71, .inl (cI, 4, .inl ((Gn8 5) 7))), (a 72, .inl (cI, 102, .inl ((Gn8 5) 8))), (a 73, .inr (0, [.int ((Gn8 5) 11 0), .int ((Gn8 5) 11 1), .int ((Gn8 5) 11 2), .int ((Gn8 5) 11 3), .ref (a 74)])), (a 74, .inl (cI, 16, .inl ((Gn8 5) 9))), (a 75, .inr (4, [.ref (a 76), .ref (a 77), .ref (a 78), .int ((Gn8 6) 10 0), .int ((Gn8 6) 10 1), .int ((Gn8 6) 10 2), .ref (a 79), .ref (a 80), .ref (a 81), .ref (a 82), .ref (a 83), .int ((Gn8 6) 10 3), .int ((Gn8 6) 10 4), .int ((Gn8 6) 10 5), .int ((Gn8 6) 10 6), .ref (a 84), .int ((Gn8 6) 10 7), .ref (a 85)])), (a 76, .inl (cI, 12, .inl ((Gn8 6) 0))), (a 77, .inl (cI, 16, .inl ((Gn8 6) 1))), (a 78, .inl (cI, 12, .inl ((Gn8 6) 2))), (a 79, .inl (cI, 48, .inl ((Gn8 6) 3))), (a 80, .inl (cI, 4, .inl ((Gn8 6) 4))), (a 81, .inl (cI, 4, .inl ((Gn8 6) 5))), (a 82, .inl (cI, 12, .inl ((Gn8 6) 6))), (a 83, .inl (cI, 4, .inl ((Gn8 6) 7))), (a 84, .inl (cI, 102, .inl ((Gn8 6) 8))), (a 85, .inr (0, [.int ((Gn8 6) 11 0), .int ((Gn8 6) 11 1), .int ((Gn8 6) 11 2), .int ((Gn8 6) 11 3), .ref (a 86)])), (a 86, .inl (cI, 16, .inl ((Gn8 6) 9))), (a 87, .inr (3, [.ref (a 1), .ref (a 88), .ref (a 89), .ref (a 90)])), (a 88, .inl (cI, 12, .inl ((Gn8 8) 0))), (a 89, .inl (cI, 12, .inl ((Gn8 8) 1))), (a 90, .inl (cI, 4, .inl ((Gn8 8) 2))), (a 91, .inr (2, [.ref (a 92), .int ((Gn8 9) 1 0), .int ((Gn8 9) 1 1)])), (a 92, .inl (cC, 140, .inl ((Gn8 9) 0)))]) (w1 := cSt (fun j => a (1 + j)) cI (f_X4_keepScene (Gn8 0) p1)) hP hD [1, 2, 3, 4, 5, 6, 7, 8, 9, 10, 11, 12] [0, 13, 14, 15, 16, 17, 18, 19, 20, 21, 22, 23, 24, 25, 26, 27, 28, 29, 30, 31, 32, 33, 34, 35, 36, 37, 38, 39, 40, 41, 42, 43, 44, 45, 46, 47, 48, 49, 50, 51, 52, 53, 54, 55, 56, 57, 58, 59, 60, 61, 62, 63, 64, 65, 66, 67, 68, 69, 70, 71, 72, 73, 74, 75, 76, 77, 78, 79, 80, 81, 82, 83, 84, 85, 86, 87, 88, 89, 90, 91, 92] rfl rfl (by decide) (by decide) hk1 hFc hP1 hD1
    have hP : va_P (dC, dI) vwCl (cDk a cI cC cS (va_up Gn8 0 (f_X4_keepScene (Gn8 0) p1))) H11 := hP.sub [0, 81, 82, 83, 84, 85, 86, 87, 88, 89, 90, 91, 92, 1, 2, 3, 4, 5, 6, 7, 8, 9, 10, 11, 12, 13, 14, 15, 16, 17, 18, 19, 20, 21, 22, 23, 24, 25, 26, 27, 28, 29, 30, 31, 32, 33, 34, 35, 36, 37, 38, 39, 40, 41, 42, 43, 44, 45, 46, 47, 48, 49, 50, 51, 52, 53, 54, 55, 56, 57, 58, 59, 60, 61, 62, 63, 64, 65, 66, 67, 68, 69, 70, 71, 72, 73, 74, 75, 76, 77, 78, 79, 80] rfl
    have hD : va_D (va_A (cDk a cI cC cS G) s.heap.size) (cDk a cI cC cS (va_up Gn8 0 (f_X4_keepScene (Gn8 0) p1))) := hD.sub [0, 81, 82, 83, 84, 85, 86, 87, 88, 89, 90, 91, 92, 1, 2, 3, 4, 5, 6, 7, 8, 9, 10, 11, 12, 13, 14, 15, 16, 17, 18, 19, 20, 21, 22, 23, 24, 25, 26, 27, 28, 29, 30, 31, 32, 33, 34, 35, 36, 37, 38, 39, 40, 41, 42, 43, 44, 45, 46, 47, 48, 49, 50, 51, 52, 53, 54, 55, 56, 57, 58, 59, 60, 61, 62, 63, 64, 65, 66, 67, 68, 69, 70, 71, 72, 73, 74, 75, 76, 77, 78, 79, 80] (by decide) rfl
    obtain ⟨Gn13, eGn13⟩ : ∃ z : GR, z = va_up Gn8 0 (f_X4_keepScene (Gn8 0) p1) := ⟨_, rfl⟩
    rw [sLet_eq, ← eGn13] at hR
    rw [← eGn13] at hP hD
    have hG14 : WFG Gn13 := (by rw [eGn13]; exact wfg_st hG9 (by decide) hens12)
    refine lv_aload_n hx hb dX5_store_30 rfl (lv_at hl 0 rfl) ?_
    refine va_get (D := (dC, dI)) (ci := 5) (v := .ref (a 1)) (C := RX5) (T := TX5) (N := 5) hx hb hts hin5 hown hK hP 0 rfl rfl 0 (by decide) (hts (.fieldLink RX5 12 "FeedDesk" "now" "LFeedDesk$State;") (List.mem_of_getElem? (i := 2) rfl)) (fun _ h9 => h9) rfl dX5_store_31 ?_
    refine va_getN (D := (dC, dI)) (ci := 4) (v := .int ((Gn13 0) 10 7)) (C := RX4) (T := TX4) (N := 18) hx hb hts hin4 hown hK hP 1 rfl rfl 16 (by decide) (va_Nw.use rfl (hN.at 33 rfl)) (fun _ h9 => h9) rfl dX5_store_34 ?_
    have hFc : ∀ q : Nat, va_A [] H11.size q → (va_A (cDk a cI cC cS G) s.heap.size) q := roF hS hA
    refine va_calli (va_runS (As := [.int ((Gn13 0) 10 7)]) (rest := []) ⟨hx, hb, hml, hown, hts⟩ (c_J6_bitCount_0f7a4 l dC dI cI cC cS H11.size ((Gn13 0) 10 7)) (va_cwS 1 hts gX5_store_J6_bitCount_0f7a4 rfl rfl rfl (by decide +kernel) ⟨Nat.le_of_ble_eq_true rfl, Nat.le_of_ble_eq_true rfl⟩) (pS hK (va_P_nil) (va_D_nil) hN) rfl rfl hl.1 rfl (lv_room (Nat.le_of_ble_eq_true rfl)) dX5_store_37 ⟨Nat.le_of_ble_eq_true rfl, Nat.le_of_ble_eq_true rfl⟩) hS (fun q _ h => hFc q h) hFc (fun r_15 u_15 t_15 H16 locs ht hvm hw hB hz1 hk1 hS => ?_)
    subst hw
    have hP := ro_keep hP hk1
    exact W.iret (v := f_J6_bitCount_0f7a4 ((Gn13 0) 10 7)) hx hb hr (fun t ht hWw => ⟨⟨f_J6_bitCount_0f7a4 ((Gn13 0) 10 7), Gn13, rfl, ⟨hR.symm.trans eR, hG14⟩, by rw [ht]; exact hP, hD⟩, hS.F ht⟩) hS.2.2 dX5_store_40
  · rw [if_pos c4] at hR
    refine lv_iconst (v := (-1)) hx hb dX5_store_9 (by decide) ?_
    exact W.iret (v := (-1)) hx hb hr (fun t ht hWw => ⟨⟨(-1), G, rfl, ⟨hR.symm.trans eR, hG⟩, by rw [ht]; exact hP, hD⟩, hS.F ht⟩) hS.2.2 dX5_store_10
abbrev rm_X5_recall : Room := { frames := 4, cells := 0, slots := 0, locals := 81 }
def f_X5_recall (G : GR) (p1 : Int32) (p2 : Int32) : Int32 × GR := (if (f_X5_isBelow p1 6) = 0 then ((-1), G) else (if (f_X5_isWithin p2 0 100) = 0 then ((-1), G) else (if (f_X5_hasBit ((G 0) 10 7) p1) = 0 then ((-2), G) else sLet ((f_X1_keep G)) (fun Gn16 : GR => sLet (va_up Gn16 0 (f_X4_beginFade (Gn16 0) p1 p2)) (fun Gn23 : GR => (f_X4_slidersUnlike (Gn16 0) p1, Gn23))))))
set_option maxHeartbeats 4000000 in
set_option maxRecDepth 100000 in
theorem c_X5_recall (l : Launch) (dC : Nat → ClassId) (dI : Nat → Nat → Nat) (cI cC cS : ClassId) (a : Nat → Nat) (G : GR) (sz : Nat) (p1 : Int32) (p2 : Int32) (hG : WFG G) : Met l yX5_recall wsX5_recall rm_X5_recall (PcG (dC, dI) (tyL cI cC cS) (cDk a cI cC cS G) sz [.ref (a 0), .int p1, .int p2]) (va_Qi (fun (r : Int32) (u : GR) => (r, u) = f_X5_recall G p1 p2 ∧ (WFG u)) (fun u U => va_P (dC, dI) vwCl (cDk a cI cC cS u) U.heap ∧ va_D (va_A (cDk a cI cC cS G) sz) (cDk a cI cC cS u)) (va_A (cDk a cI cC cS G) sz)) 0 0 (va_A (cDk a cI cC cS G) sz) := by
  refine Met.ofW (cc := cX5_recall) (maxL := 4) (ret := (some .int)) (by decide) rfl ?_
  intro p e s m args below meth c s₁ B hml hv
  obtain ⟨rfl, hsz, hP, hK, hD0, hN⟩ := hv
  have hx := B.exec
  have hb := B.bytes
  have hr := B.returns
  have hts := atoms_spec (ws := wsX5_recall) B.pre
  have hown : s.vm.findClass RX5 = some m.cls := findClass_of_methodNamed B.named
  have hlocks := B.notSynchronized
  subst hsz
  have hD := hD0.self (sz := s.heap.size)
  have hA : ∀ q : Nat, s.heap.size ≤ q → (va_A (cDk a cI cC cS G) s.heap.size) q := fun q h => Or.inr h
  have hS : va_S (va_A (cDk a cI cC cS G) s.heap.size) s.heap s.heap [] := va_S.rf
  have hin5 : ∀ w ∈ wsX50, w ∈ wsX5_recall := fun _ h => List.mem_cons_of_mem _ (List.mem_append_left _ (List.mem_append_left _ (List.mem_append_left _ (List.mem_append_right _ h))))
  have hin4 : ∀ w ∈ wsX40, w ∈ wsX5_recall := fun _ h => List.mem_cons_of_mem _ (List.mem_append_left _ (List.mem_append_left _ (List.mem_append_right _ h)))
  have hl := lv_entry [.ref (a 0), .int p1, .int p2] (n := 4) (Nat.le_of_ble_eq_true rfl)
  rw [lg_entry_eq]
  generalize (lg_sl [.ref (a 0), .int p1, .int p2] ++ List.replicate (4 - (lg_sl [.ref (a 0), .int p1, .int p2]).length) Slot.unset).toArray = ls at hl ⊢
  have hl : lv_has ls 4 [(0, .ref (a 0)), (1, .int p1), (2, .int p2)] := hl
  obtain ⟨R0, eR⟩ : ∃ z, z = f_X5_recall G p1 p2 := ⟨_, rfl⟩
  have hR := eR
  rw [f_X5_recall] at hR
  refine lv_iload_n hx hb dX5_recall_0 rfl (lv_at hl 1 rfl) ?_
  refine lv_bipush (v := 6) hx hb dX5_recall_1 (by decide) ?_
  have hFc : ∀ q : Nat, va_A [] s.heap.size q → (va_A (cDk a cI cC cS G) s.heap.size) q := roF hS hA
  refine va_calli (va_runS (As := [.int p1, .int 6]) (rest := []) ⟨hx, hb, hml, hown, hts⟩ (c_X5_isBelow l dC dI cI cC cS s.heap.size p1 6) (va_cwS 2 hts gX5_recall_X5_isBelow rfl rfl rfl (by decide +kernel) ⟨Nat.le_of_ble_eq_true rfl, Nat.le_of_ble_eq_true rfl⟩) (pS hK (va_P_nil) (va_D_nil) hN) rfl rfl hl.1 rfl (lv_room (Nat.le_of_ble_eq_true rfl)) dX5_recall_3 ⟨Nat.le_of_ble_eq_true rfl, Nat.le_of_ble_eq_true rfl⟩) hS (fun q _ h => hFc q h) hFc (fun r_1 u_1 t_1 H2 locs ht hvm hw hB hz1 hk1 hS => ?_)
  obtain ⟨hw, hre3⟩ := hw
  subst hw
  have hP := ro_keep hP hk1
  refine lv_if_eq (tgt := 19) hx hb dX5_recall_6 (by decide) (fun c4 => ?_) (fun c4 => ?_)
  · rw [if_pos c4] at hR
    refine lv_iconst (v := (-1)) hx hb dX5_recall_19 (by decide) ?_
    exact W.iret (v := (-1)) hx hb hr (fun t ht hWw => ⟨⟨(-1), G, rfl, ⟨hR.symm.trans eR, hG⟩, by rw [ht]; exact hP, hD⟩, hS.F ht⟩) hS.2.2 dX5_recall_20
  · rw [if_neg c4] at hR
    refine lv_iload_n hx hb dX5_recall_9 rfl (lv_at hl 2 rfl) ?_
    refine lv_iconst (v := 0) hx hb dX5_recall_10 (by decide) ?_
    refine lv_bipush (v := 100) hx hb dX5_recall_11 (by decide) ?_
    have hFc : ∀ q : Nat, va_A [] H2.size q → (va_A (cDk a cI cC cS G) s.heap.size) q := roF hS hA
    refine va_calli (va_runS (As := [.int p2, .int 0, .int 100]) (rest := []) ⟨hx, hb, hml, hown, hts⟩ (c_X5_isWithin l dC dI cI cC cS H2.size p2 0 100) (va_cwS 3 hts gX5_recall_X5_isWithin rfl rfl rfl (by decide +kernel) ⟨Nat.le_of_ble_eq_true rfl, Nat.le_of_ble_eq_true rfl⟩) (pS hK (va_P_nil) (va_D_nil) hN) rfl rfl hl.1 rfl (lv_room (Nat.le_of_ble_eq_true rfl)) dX5_recall_13 ⟨Nat.le_of_ble_eq_true rfl, Nat.le_of_ble_eq_true rfl⟩) hS (fun q _ h => hFc q h) hFc (fun r_5 u_5 t_5 H6 locs ht hvm hw hB hz1 hk1 hS => ?_)
    obtain ⟨hw, hre7⟩ := hw
    subst hw
    have hP := ro_keep hP hk1
    refine lv_if_ne (tgt := 21) hx hb dX5_recall_16 (by decide) (fun c8 => ?_) (fun c8 => ?_)
    · rw [if_neg c8] at hR
      refine lv_aload_n hx hb dX5_recall_21 rfl (lv_at hl 0 rfl) ?_
      refine va_get (D := (dC, dI)) (ci := 5) (v := .ref (a 1)) (C := RX5) (T := TX5) (N := 5) hx hb hts hin5 hown hK hP 0 rfl rfl 0 (by decide) (hts (.fieldLink RX5 12 "FeedDesk" "now" "LFeedDesk$State;") (List.mem_of_getElem? (i := 1) rfl)) (fun _ h9 => h9) rfl dX5_recall_22 ?_
      refine va_getN (D := (dC, dI)) (ci := 4) (v := .int ((G 0) 10 7)) (C := RX4) (T := TX4) (N := 18) hx hb hts hin4 hown hK hP 1 rfl rfl 16 (by decide) (va_Nw.use rfl (hN.at 33 rfl)) (fun _ h9 => h9) rfl dX5_recall_25 ?_
      refine lv_iload_n hx hb dX5_recall_28 rfl (lv_at hl 1 rfl) ?_
      have hFc : ∀ q : Nat, va_A [] H6.size q → (va_A (cDk a cI cC cS G) s.heap.size) q := roF hS hA
      refine va_calli (va_runS (As := [.int ((G 0) 10 7), .int p1]) (rest := []) ⟨hx, hb, hml, hown, hts⟩ (c_X5_hasBit l dC dI cI cC cS H6.size ((G 0) 10 7) p1) (va_cwS 2 hts gX5_recall_X5_hasBit rfl rfl rfl (by decide +kernel) ⟨Nat.le_of_ble_eq_true rfl, Nat.le_of_ble_eq_true rfl⟩) (pS hK (va_P_nil) (va_D_nil) hN) rfl rfl hl.1 rfl (lv_room (Nat.le_of_ble_eq_true rfl)) dX5_recall_29 ⟨Nat.le_of_ble_eq_true rfl, Nat.le_of_ble_eq_true rfl⟩) hS (fun q _ h => hFc q h) hFc (fun r_9 u_9 t_9 H10 locs ht hvm hw hB hz1 hk1 hS => ?_)
      obtain ⟨hw, hre11⟩ := hw
      subst hw
      have hP := ro_keep hP hk1
      refine lv_if_ne (tgt := 38) hx hb dX5_recall_32 (by decide) (fun c12 => ?_) (fun c12 => ?_)
      · rw [if_neg c12] at hR
        refine lv_aload_n hx hb dX5_recall_38 rfl (lv_at hl 0 rfl) ?_
        refine va_get (D := (dC, dI)) (ci := 5) (v := .ref (a 25)) (C := RX5) (T := TX5) (N := 5) hx hb hts hin5 hown hK hP 0 rfl rfl 2 (by decide) (hts (.fieldLink RX5 22 "FeedDesk" "history" "LFeedDesk$History;") (List.mem_of_getElem? (i := 2) rfl)) (fun _ h9 => h9) rfl dX5_recall_39 ?_
        refine lv_aload_n hx hb dX5_recall_42 rfl (lv_at hl 0 rfl) ?_
        refine va_get (D := (dC, dI)) (ci := 5) (v := .ref (a 1)) (C := RX5) (T := TX5) (N := 5) hx hb hts hin5 hown hK hP 0 rfl rfl 0 (by decide) (hts (.fieldLink RX5 12 "FeedDesk" "now" "LFeedDesk$State;") (List.mem_of_getElem? (i := 1) rfl)) (fun _ h9 => h9) rfl dX5_recall_43 ?_
        have hPc : va_P (dC, dI) vwCl (cDk a cI cC cS G) H10 := hP.sub [0, 1, 2, 3, 4, 5, 6, 7, 8, 9, 10, 11, 12, 13, 14, 15, 16, 17, 18, 19, 20, 21, 22, 23, 24, 25, 26, 27, 28, 29, 30, 31, 32, 33, 34, 35, 36, 37, 38, 39, 40, 41, 42, 43, 44, 45, 46, 47, 48, 49, 50, 51, 52, 53, 54, 55, 56, 57, 58, 59, 60, 61, 62, 63, 64, 65, 66, 67, 68, 69, 70, 71, 72, 73, 74, 75, 76, 77, 78, 79, 80, 81, 82, 83, 84, 85, 86, 87, 88, 89, 90, 91, 92] rfl
        have hDc : va_D (va_A (cDk a cI cC cS G) s.heap.size) (cDk a cI cC cS G) := hD.sub [0, 1, 2, 3, 4, 5, 6, 7, 8, 9, 10, 11, 12, 13, 14, 15, 16, 17, 18, 19, 20, 21, 22, 23, 24, 25, 26, 27, 28, 29, 30, 31, 32, 33, 34, 35, 36, 37, 38, 39, 40, 41, 42, 43, 44, 45, 46, 47, 48, 49, 50, 51, 52, 53, 54, 55, 56, 57, 58, 59, 60, 61, 62, 63, 64, 65, 66, 67, 68, 69, 70, 71, 72, 73, 74, 75, 76, 77, 78, 79, 80, 81, 82, 83, 84, 85, 86, 87, 88, 89, 90, 91, 92] (by decide) rfl
        have hFc : ∀ q : Nat, va_A (cDk a cI cC cS G) H10.size q → (va_A (cDk a cI cC cS G) s.heap.size) q := va_free hD hS hA [0, 1, 2, 3, 4, 5, 6, 7, 8, 9, 10, 11, 12, 13, 14, 15, 16, 17, 18, 19, 20, 21, 22, 23, 24, 25, 26, 27, 28, 29, 30, 31, 32, 33, 34, 35, 36, 37, 38, 39, 40, 41, 42, 43, 44, 45, 46, 47, 48, 49, 50, 51, 52, 53, 54, 55, 56, 57, 58, 59, 60, 61, 62, 63, 64, 65, 66, 67, 68, 69, 70, 71, 72, 73, 74, 75, 76, 77, 78, 79, 80, 81, 82, 83, 84, 85, 86, 87, 88, 89, 90, 91, 92] rfl
        refine va_callv (va_runV (As := [.ref (a 1)]) (rest := []) ⟨hx, hb, hml, hown, hts⟩ (c_X1_keep l dC dI cI cC cS a G H10.size hG) (cwV 1 hts gX5_recall_X1_keep rfl rfl rfl (by decide +kernel) ⟨Nat.le_of_ble_eq_true rfl, Nat.le_of_ble_eq_true rfl⟩) (pV (q0 := 25) hK hPc hDc hN rfl rfl) rfl rfl hl.1 rfl (lv_room (Nat.le_of_ble_eq_true rfl)) dX5_recall_46 ⟨Nat.le_of_ble_eq_true rfl, Nat.le_of_ble_eq_true rfl⟩) hS (fun q _ h => hFc q h) hFc (fun u_13 t_13 H14 locs ht hvm hw hB hz1 hk1 hS => ?_)
        obtain ⟨hw, hens15⟩ := hw
        obtain ⟨hP1, hD1⟩ := hB
        rw [ht] at hP1
        subst hw
        obtain ⟨hP, hD⟩ := va_join (wc := cDk a cI cC cS G) (wr := []) (w1 := cDk a cI cC cS (f_X1_keep G)) hP hD [0, 1, 2, 3, 4, 5, 6, 7, 8, 9, 10, 11, 12, 13, 14, 15, 16, 17, 18, 19, 20, 21, 22, 23, 24, 25, 26, 27, 28, 29, 30, 31, 32, 33, 34, 35, 36, 37, 38, 39, 40, 41, 42, 43, 44, 45, 46, 47, 48, 49, 50, 51, 52, 53, 54, 55, 56, 57, 58, 59, 60, 61, 62, 63, 64, 65, 66, 67, 68, 69, 70, 71, 72, 73, 74, 75, 76, 77, 78, 79, 80, 81, 82, 83, 84, 85, 86, 87, 88, 89, 90, 91, 92] [] rfl rfl (by decide) (by decide) hk1 hFc hP1 hD1
        have hP : va_P (dC, dI) vwCl (cDk a cI cC cS (f_X1_keep G)) H14 := hP.sub [0, 1, 2, 3, 4, 5, 6, 7, 8, 9, 10, 11, 12, 13, 14, 15, 16, 17, 18, 19, 20, 21, 22, 23, 24, 25, 26, 27, 28, 29, 30, 31, 32, 33, 34, 35, 36, 37, 38, 39, 40, 41, 42, 43, 44, 45, 46, 47, 48, 49, 50, 51, 52, 53, 54, 55, 56, 57, 58, 59, 60, 61, 62, 63, 64, 65, 66, 67, 68, 69, 70, 71, 72, 73, 74, 75, 76, 77, 78, 79, 80, 81, 82, 83, 84, 85, 86, 87, 88, 89, 90, 91, 92] rfl
        have hD : va_D (va_A (cDk a cI cC cS G) s.heap.size) (cDk a cI cC cS (f_X1_keep G)) := hD.sub [0, 1, 2, 3, 4, 5, 6, 7, 8, 9, 10, 11, 12, 13, 14, 15, 16, 17, 18, 19, 20, 21, 22, 23, 24, 25, 26, 27, 28, 29, 30, 31, 32, 33, 34, 35, 36, 37, 38, 39, 40, 41, 42, 43, 44, 45, 46, 47, 48, 49, 50, 51, 52, 53, 54, 55, 56, 57, 58, 59, 60, 61, 62, 63, 64, 65, 66, 67, 68, 69, 70, 71, 72, 73, 74, 75, 76, 77, 78, 79, 80, 81, 82, 83, 84, 85, 86, 87, 88, 89, 90, 91, 92] (by decide) rfl
        obtain ⟨Gn16, eGn16⟩ : ∃ z : GR, z = (f_X1_keep G) := ⟨_, rfl⟩
        rw [sLet_eq, ← eGn16] at hR
        rw [← eGn16] at hP hD
        have hG17 : WFG Gn16 := by rw [eGn16]; exact hens15
        refine lv_aload_n hx hb dX5_recall_49 rfl (lv_at hl 0 rfl) ?_
        refine va_get (D := (dC, dI)) (ci := 5) (v := .ref (a 1)) (C := RX5) (T := TX5) (N := 5) hx hb hts hin5 hown hK hP 0 rfl rfl 0 (by decide) (hts (.fieldLink RX5 12 "FeedDesk" "now" "LFeedDesk$State;") (List.mem_of_getElem? (i := 1) rfl)) (fun _ h9 => h9) rfl dX5_recall_50 ?_
        refine lv_iload_n hx hb dX5_recall_53 rfl (lv_at hl 1 rfl) ?_
        have hPc : va_P (dC, dI) vwCl (cSt (fun j => a (1 + j)) cI (Gn16 0)) H14 := hP.sub [1, 2, 3, 4, 5, 6, 7, 8, 9, 10, 11, 12] rfl
        have hDc : va_D (va_A (cDk a cI cC cS G) s.heap.size) (cSt (fun j => a (1 + j)) cI (Gn16 0)) := hD.sub [1, 2, 3, 4, 5, 6, 7, 8, 9, 10, 11, 12] (by decide) rfl
        have hFc : ∀ q : Nat, va_A [] H14.size q → (va_A (cDk a cI cC cS G) s.heap.size) q := roF hS hA
        refine va_calli (va_runV (As := [.int p1]) (rest := []) ⟨hx, hb, hml, hown, hts⟩ (c_X4_slidersUnlike l dC dI cI cC cS (fun j => a (1 + j)) (Gn16 0) H14.size p1 (below_vp (n := 6) c4)) (cwV 1 hts gX5_recall_X4_slidersUnlike rfl rfl rfl (by decide +kernel) ⟨Nat.le_of_ble_eq_true rfl, Nat.le_of_ble_eq_true rfl⟩) (pV (q0 := 0) hK hPc hDc hN rfl rfl) rfl rfl hl.1 rfl (lv_room (Nat.le_of_ble_eq_true rfl)) dX5_recall_54 ⟨Nat.le_of_ble_eq_true rfl, Nat.le_of_ble_eq_true rfl⟩) hS (fun q _ h => hFc q h) hFc (fun r_18 u_18 t_18 H19 locs ht hvm hw hB hz1 hk1 hS => ?_)
        subst hw
        have hP := ro_keep hP hk1
        refine lv_istore_n (lv' := [(3, .int (f_X4_slidersUnlike (Gn16 0) p1)), (0, .ref (a 0)), (1, .int p1), (2, .int p2)]) hx hb dX5_recall_57 rfl hl (by decide) rfl (fun ls hl => ?_)
        refine lv_aload_n hx hb dX5_recall_58 rfl (lv_at hl 1 rfl) ?_
        refine va_get (D := (dC, dI)) (ci := 5) (v := .ref (a 1)) (C := RX5) (T := TX5) (N := 5) hx hb hts hin5 hown hK hP 0 rfl rfl 0 (by decide) (hts (.fieldLink RX5 12 "FeedDesk" "now" "LFeedDesk$State;") (List.mem_of_getElem? (i := 1) rfl)) (fun _ h9 => h9) rfl dX5_recall_59 ?_
        refine lv_iload_n hx hb dX5_recall_62 rfl (lv_at hl 2 rfl) ?_
        refine lv_iload_n hx hb dX5_recall_63 rfl (lv_at hl 3 rfl) ?_
        have hPc : va_P (dC, dI) vwCl (cSt (fun j => a (1 + j)) cI (Gn16 0)) H19 := hP.sub [1, 2, 3, 4, 5, 6, 7, 8, 9, 10, 11, 12] rfl
        have hDc : va_D (va_A (cDk a cI cC cS G) s.heap.size) (cSt (fun j => a (1 + j)) cI (Gn16 0)) := hD.sub [1, 2, 3, 4, 5, 6, 7, 8, 9, 10, 11, 12] (by decide) rfl
        have hFc : ∀ q : Nat, va_A (cSt (fun j => a (1 + j)) cI (Gn16 0)) H19.size q → (va_A (cDk a cI cC cS G) s.heap.size) q := va_free hD hS hA [1, 2, 3, 4, 5, 6, 7, 8, 9, 10, 11, 12] rfl
        refine va_callv (va_runV (As := [.int p1, .int p2]) (rest := []) ⟨hx, hb, hml, hown, hts⟩ (c_X4_beginFade l dC dI cI cC cS (fun j => a (1 + j)) (Gn16 0) H19.size p1 p2 (below_vp (n := 6) c4) (hG17.1 0 (by decide))) (cwV 2 hts gX5_recall_X4_beginFade rfl rfl rfl (by decide +kernel) ⟨Nat.le_of_ble_eq_true rfl, Nat.le_of_ble_eq_true rfl⟩) (pV (q0 := 0) hK hPc hDc hN rfl rfl) rfl rfl hl.1 rfl (lv_room (Nat.le_of_ble_eq_true rfl)) dX5_recall_64 ⟨Nat.le_of_ble_eq_true rfl, Nat.le_of_ble_eq_true rfl⟩) hS (fun q _ h => hFc q h) hFc (fun u_20 t_20 H21 locs ht hvm hw hB hz1 hk1 hS => ?_)
        obtain ⟨hw, hens22⟩ := hw
        obtain ⟨hP1, hD1⟩ := hB
        rw [ht] at hP1
        subst hw
        obtain ⟨hP, hD⟩ := va_join (wc := cSt (fun j => a (1 + j)) cI (Gn16 0)) (wr := [(a 0, .inr (5, [.ref (a 1), .ref (a 13), .ref (a 25), .ref (a 87), .ref (a 91)])), (a 13, .inr (4, [.ref (a 14), .ref (a 15), .ref (a 16), .int ((Gn16 1) 10 0), .int ((Gn16 1) 10 1), .int ((Gn16 1) 10 2), .ref (a 17), .ref (a 18), .ref (a 19), .ref (a 20), .ref (a 21), .int ((Gn16 1) 10 3), .int ((Gn16 1) 10 4), .int ((Gn16 1) 10 5), .int ((Gn16 1) 10 6), .ref (a 22), .int ((Gn16 1) 10 7), .ref (a 23)])), (a 14, .inl (cI, 12, .inl ((Gn16 1) 0))), (a 15, .inl (cI, 16, .inl ((Gn16 1) 1))), (a 16, .inl (cI, 12, .inl ((Gn16 1) 2))), (a 17, .inl (cI, 48, .inl ((Gn16 1) 3))), (a 18, .inl (cI, 4, .inl ((Gn16 1) 4))), (a 19, .inl (cI, 4, .inl ((Gn16 1) 5))), (a 20, .inl (cI, 12, .inl ((Gn16 1) 6))), (a 21, .inl (cI, 4, .inl ((Gn16 1) 7))), (a 22, .inl (cI, 102, .inl ((Gn16 1) 8))), (a 23, .inr (0, [.int ((Gn16 1) 11 0), .int ((Gn16 1) 11 1), .int ((Gn16 1) 11 2), .int ((Gn16 1) 11 3), .ref (a 24)])), (a 24, .inl (cI, 16, .inl ((Gn16 1) 9))), (a 25, .inr (1, [.ref (a 26), .int ((Gn16 7) 0 0), .int ((Gn16 7) 0 1)])), (a 26, .inl (cS, 5, .inr (.inr (.inr (.inr (kf a)))))), (a 27, .inr (4, [.ref (a 28), .ref (a 29), .ref (a 30), .int ((Gn16 2) 10 0), .int ((Gn16 2) 10 1), .int ((Gn16 2) 10 2), .ref (a 31), .ref (a 32), .ref (a 33), .ref (a 34), .ref (a 35), .int ((Gn16 2) 10 3), .int ((Gn16 2) 10 4), .int ((Gn16 2) 10 5), .int ((Gn16 2) 10 6), .ref (a 36), .int ((Gn16 2) 10 7), .ref (a 37)])), (a 28, .inl (cI, 12, .inl ((Gn16 2) 0))), (a 29, .inl (cI, 16, .inl ((Gn16 2) 1))), (a 30, .inl (cI, 12, .inl ((Gn16 2) 2))), (a 31, .inl (cI, 48, .inl ((Gn16 2) 3))), (a 32, .inl (cI, 4, .inl ((Gn16 2) 4))), (a 33, .inl (cI, 4, .inl ((Gn16 2) 5))), (a 34, .inl (cI, 12, .inl ((Gn16 2) 6))), (a 35, .inl (cI, 4, .inl ((Gn16 2) 7))), (a 36, .inl (cI, 102, .inl ((Gn16 2) 8))), (a 37, .inr (0, [.int ((Gn16 2) 11 0), .int ((Gn16 2) 11 1), .int ((Gn16 2) 11 2), .int ((Gn16 2) 11 3), .ref (a 38)])), (a 38, .inl (cI, 16, .inl ((Gn16 2) 9))), (a 39, .inr (4, [.ref (a 40), .ref (a 41), .ref (a 42), .int ((Gn16 3) 10 0), .int ((Gn16 3) 10 1), .int ((Gn16 3) 10 2), .ref (a 43), .ref (a 44), .ref (a 45), .ref (a 46), .ref (a 47), .int ((Gn16 3) 10 3), .int ((Gn16 3) 10 4), .int ((Gn16 3) 10 5), .int ((Gn16 3) 10 6), .ref (a 48), .int ((Gn16 3) 10 7), .ref (a 49)])), (a 40, .inl (cI, 12, .inl ((Gn16 3) 0))), (a 41, .inl (cI, 16, .inl ((Gn16 3) 1))), (a 42, .inl (cI, 12, .inl ((Gn16 3) 2))), (a 43, .inl (cI, 48, .inl ((Gn16 3) 3))), (a 44, .inl (cI, 4, .inl ((Gn16 3) 4))), (a 45, .inl (cI, 4, .inl ((Gn16 3) 5))), (a 46, .inl (cI, 12, .inl ((Gn16 3) 6))), (a 47, .inl (cI, 4, .inl ((Gn16 3) 7))), (a 48, .inl (cI, 102, .inl ((Gn16 3) 8))), (a 49, .inr (0, [.int ((Gn16 3) 11 0), .int ((Gn16 3) 11 1), .int ((Gn16 3) 11 2), .int ((Gn16 3) 11 3), .ref (a 50)])), (a 50, .inl (cI, 16, .inl ((Gn16 3) 9))), (a 51, .inr (4, [.ref (a 52), .ref (a 53), .ref (a 54), .int ((Gn16 4) 10 0), .int ((Gn16 4) 10 1), .int ((Gn16 4) 10 2), .ref (a 55), .ref (a 56), .ref (a 57), .ref (a 58), .ref (a 59), .int ((Gn16 4) 10 3), .int ((Gn16 4) 10 4), .int ((Gn16 4) 10 5), .int ((Gn16 4) 10 6), .ref (a 60), .int ((Gn16 4) 10 7), .ref (a 61)])), (a 52, .inl (cI, 12, .inl ((Gn16 4) 0))), (a 53, .inl (cI, 16, .inl ((Gn16 4) 1))), (a 54, .inl (cI, 12, .inl ((Gn16 4) 2))), (a 55, .inl (cI, 48, .inl ((Gn16 4) 3))), (a 56, .inl (cI, 4, .inl ((Gn16 4) 4))), (a 57, .inl (cI, 4, .inl ((Gn16 4) 5))), (a 58, .inl (cI, 12, .inl ((Gn16 4) 6))), (a 59, .inl (cI, 4, .inl ((Gn16 4) 7))), (a 60, .inl (cI, 102, .inl ((Gn16 4) 8))), (a 61, .inr (0, [.int ((Gn16 4) 11 0), .int ((Gn16 4) 11 1), .int ((Gn16 4) 11 2), .int ((Gn16 4) 11 3), .ref (a 62)])), (a 62, .inl (cI, 16, .inl ((Gn16 4) 9))), (a 63, .inr (4, [.ref (a 64), .ref (a 65), .ref (a 66), .int ((Gn16 5) 10 0), .int ((Gn16 5) 10 1), .int ((Gn16 5) 10 2), .ref (a 67), .ref (a 68), .ref (a 69), .ref (a 70), .ref (a 71), .int ((Gn16 5) 10 3), .int ((Gn16 5) 10 4), .int ((Gn16 5) 10 5), .int ((Gn16 5) 10 6), .ref (a 72), .int ((Gn16 5) 10 7), .ref (a 73)])), (a 64, .inl (cI, 12, .inl ((Gn16 5) 0))), (a 65, .inl (cI, 16, .inl ((Gn16 5) 1))), (a 66, .inl (cI, 12, .inl ((Gn16 5) 2))), (a 67, .inl (cI, 48, .inl ((Gn16 5) 3))), (a 68, .inl (cI, 4, .inl ((Gn16 5) 4))), (a 69, .inl (cI, 4, .inl ((Gn16 5) 5))), (a 70, .inl (cI, 12, .inl ((Gn16 5) 6))), (a 71, .inl (cI, 4, .inl ((Gn16 5) 7))), (a 72, .inl (cI, 102, .inl ((Gn16 5) 8))), (a 73, .inr (0, [.int ((Gn16 5) 11 0), .int ((Gn16 5) 11 1), .int ((Gn16 5) 11 2), .int ((Gn16 5) 11 3), .ref (a 74)])), (a 74, .inl (cI, 16, .inl ((Gn16 5) 9))), (a 75, .inr (4, [.ref (a 76), .ref (a 77), .ref (a 78), .int ((Gn16 6) 10 0), .int ((Gn16 6) 10 1), .int ((Gn16 6) 10 2), .ref (a 79), .ref (a 80), .ref (a 81), .ref (a 82), .ref (a 83), .int ((Gn16 6) 10 3), .int ((Gn16 6) 10 4), .int ((Gn16 6) 10 5), .int ((Gn16 6) 10 6), .ref (a 84), .int ((Gn16 6) 10 7), .ref (a 85)])), (a 76, .inl (cI, 12, .inl ((Gn16 6) 0))), (a 77, .inl (cI, 16, .inl ((Gn16 6) 1))), (a 78, .inl (cI, 12, .inl ((Gn16 6) 2))), (a 79, .inl (cI, 48, .inl ((Gn16 6) 3))), (a 80, .inl (cI, 4, .inl ((Gn16 6) 4))), (a 81, .inl (cI, 4, .inl ((Gn16 6) 5))), (a 82, .inl (cI, 12, .inl ((Gn16 6) 6))), (a 83, .inl (cI, 4, .inl ((Gn16 6) 7))), (a 84, .inl (cI, 102, .inl ((Gn16 6) 8))), (a 85, .inr (0, [.int ((Gn16 6) 11 0), .int ((Gn16 6) 11 1), .int ((Gn16 6) 11 2), .int ((Gn16 6) 11 3), .ref (a 86)])), (a 86, .inl (cI, 16, .inl ((Gn16 6) 9))), (a 87, .inr (3, [.ref (a 1), .ref (a 88), .ref (a 89), .ref (a 90)])), (a 88, .inl (cI, 12, .inl ((Gn16 8) 0))), (a 89, .inl (cI, 12, .inl ((Gn16 8) 1))), (a 90, .inl (cI, 4, .inl ((Gn16 8) 2))), (a 91, .inr (2, [.ref (a 92), .int ((Gn16 9) 1 0), .int ((Gn16 9) 1 1)])), (a 92, .inl (cC, 140, .inl ((Gn16 9) 0)))]) (w1 := cSt (fun j => a (1 + j)) cI (f_X4_beginFade (Gn16 0) p1 p2)) hP hD [1, 2, 3, 4, 5, 6, 7, 8, 9, 10, 11, 12] [0, 13, 14, 15, 16, 17, 18, 19, 20, 21, 22, 23, 24, 25, 26, 27, 28, 29, 30, 31, 32, 33, 34, 35, 36, 37, 38, 39, 40, 41, 42, 43, 44, 45, 46, 47, 48, 49, 50, 51, 52, 53, 54, 55, 56, 57, 58, 59, 60, 61, 62, 63, 64, 65, 66, 67, 68, 69, 70, 71, 72, 73, 74, 75, 76, 77, 78, 79, 80, 81, 82, 83, 84, 85, 86, 87, 88, 89, 90, 91, 92] rfl rfl (by decide) (by decide) hk1 hFc hP1 hD1
        have hP : va_P (dC, dI) vwCl (cDk a cI cC cS (va_up Gn16 0 (f_X4_beginFade (Gn16 0) p1 p2))) H21 := hP.sub [0, 81, 82, 83, 84, 85, 86, 87, 88, 89, 90, 91, 92, 1, 2, 3, 4, 5, 6, 7, 8, 9, 10, 11, 12, 13, 14, 15, 16, 17, 18, 19, 20, 21, 22, 23, 24, 25, 26, 27, 28, 29, 30, 31, 32, 33, 34, 35, 36, 37, 38, 39, 40, 41, 42, 43, 44, 45, 46, 47, 48, 49, 50, 51, 52, 53, 54, 55, 56, 57, 58, 59, 60, 61, 62, 63, 64, 65, 66, 67, 68, 69, 70, 71, 72, 73, 74, 75, 76, 77, 78, 79, 80] rfl
        have hD : va_D (va_A (cDk a cI cC cS G) s.heap.size) (cDk a cI cC cS (va_up Gn16 0 (f_X4_beginFade (Gn16 0) p1 p2))) := hD.sub [0, 81, 82, 83, 84, 85, 86, 87, 88, 89, 90, 91, 92, 1, 2, 3, 4, 5, 6, 7, 8, 9, 10, 11, 12, 13, 14, 15, 16, 17, 18, 19, 20, 21, 22, 23, 24, 25, 26, 27, 28, 29, 30, 31, 32, 33, 34, 35, 36, 37, 38, 39, 40, 41, 42, 43, 44, 45, 46, 47, 48, 49, 50, 51, 52, 53, 54, 55, 56, 57, 58, 59, 60, 61, 62, 63, 64, 65, 66, 67, 68, 69, 70, 71, 72, 73, 74, 75, 76, 77, 78, 79, 80] (by decide) rfl
        obtain ⟨Gn23, eGn23⟩ : ∃ z : GR, z = va_up Gn16 0 (f_X4_beginFade (Gn16 0) p1 p2) := ⟨_, rfl⟩
        rw [sLet_eq, ← eGn23] at hR
        rw [← eGn23] at hP hD
        have hG24 : WFG Gn23 := (by rw [eGn23]; exact wfg_st hG17 (by decide) hens22)
        refine lv_iload_n hx hb dX5_recall_67 rfl (lv_at hl 0 rfl) ?_
        exact W.iret (v := f_X4_slidersUnlike (Gn16 0) p1) hx hb hr (fun t ht hWw => ⟨⟨f_X4_slidersUnlike (Gn16 0) p1, Gn23, rfl, ⟨hR.symm.trans eR, hG24⟩, by rw [ht]; exact hP, hD⟩, hS.F ht⟩) hS.2.2 dX5_recall_68
      · rw [if_pos c12] at hR
        refine lv_bipush (v := (-2)) hx hb dX5_recall_35 (by decide) ?_
        exact W.iret (v := (-2)) hx hb hr (fun t ht hWw => ⟨⟨(-2), G, rfl, ⟨hR.symm.trans eR, hG⟩, by rw [ht]; exact hP, hD⟩, hS.F ht⟩) hS.2.2 dX5_recall_37
    · rw [if_pos c8] at hR
      refine lv_iconst (v := (-1)) hx hb dX5_recall_19 (by decide) ?_
      exact W.iret (v := (-1)) hx hb hr (fun t ht hWw => ⟨⟨(-1), G, rfl, ⟨hR.symm.trans eR, hG⟩, by rw [ht]; exact hP, hD⟩, hS.F ht⟩) hS.2.2 dX5_recall_20
