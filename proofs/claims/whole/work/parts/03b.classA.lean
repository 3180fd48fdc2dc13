theorem lk_J6_bitCount_0f7a4_0 : (.constant RJ6 265 (1431655765) : Cond) ∈ wsJ6_bitCount_0f7a4 := by decide +kernel
theorem lk_J6_bitCount_0f7a4_1 : (.constant RJ6 266 (858993459) : Cond) ∈ wsJ6_bitCount_0f7a4 := by decide +kernel
theorem lk_J6_bitCount_0f7a4_2 : (.constant RJ6 267 (252645135) : Cond) ∈ wsJ6_bitCount_0f7a4 := by decide +kernel
def fJ6_bitCount_0f7a4 (st : ow_St) (x0 : Int32) : Int32 := ((((((((x0 - ((((x0).toUInt32 >>> ((1 : Int32).toUInt32 &&& Int32.toUInt32 31)).toInt32) &&& 1431655765)) &&& 858993459) + (((((x0 - ((((x0).toUInt32 >>> ((1 : Int32).toUInt32 &&& Int32.toUInt32 31)).toInt32) &&& 1431655765))).toUInt32 >>> ((2 : Int32).toUInt32 &&& Int32.toUInt32 31)).toInt32) &&& 858993459)) + ((((((x0 - ((((x0).toUInt32 >>> ((1 : Int32).toUInt32 &&& Int32.toUInt32 31)).toInt32) &&& 1431655765)) &&& 858993459) + (((((x0 - ((((x0).toUInt32 >>> ((1 : Int32).toUInt32 &&& Int32.toUInt32 31)).toInt32) &&& 1431655765))).toUInt32 >>> ((2 : Int32).toUInt32 &&& Int32.toUInt32 31)).toInt32) &&& 858993459))).toUInt32 >>> ((4 : Int32).toUInt32 &&& Int32.toUInt32 31)).toInt32)) &&& 252645135) + ((((((((x0 - ((((x0).toUInt32 >>> ((1 : Int32).toUInt32 &&& Int32.toUInt32 31)).toInt32) &&& 1431655765)) &&& 858993459) + (((((x0 - ((((x0).toUInt32 >>> ((1 : Int32).toUInt32 &&& Int32.toUInt32 31)).toInt32) &&& 1431655765))).toUInt32 >>> ((2 : Int32).toUInt32 &&& Int32.toUInt32 31)).toInt32) &&& 858993459)) + ((((((x0 - ((((x0).toUInt32 >>> ((1 : Int32).toUInt32 &&& Int32.toUInt32 31)).toInt32) &&& 1431655765)) &&& 858993459) + (((((x0 - ((((x0).toUInt32 >>> ((1 : Int32).toUInt32 &&& Int32.toUInt32 31)).toInt32) &&& 1431655765))).toUInt32 >>> ((2 : Int32).toUInt32 &&& Int32.toUInt32 31)).toInt32) &&& 858993459))).toUInt32 >>> ((4 : Int32).toUInt32 &&& Int32.toUInt32 31)).toInt32)) &&& 252645135)).toUInt32 >>> ((8 : Int32).toUInt32 &&& Int32.toUInt32 31)).toInt32)) + (((((((((x0 - ((((x0).toUInt32 >>> ((1 : Int32).toUInt32 &&& Int32.toUInt32 31)).toInt32) &&& 1431655765)) &&& 858993459) + (((((x0 - ((((x0).toUInt32 >>> ((1 : Int32).toUInt32 &&& Int32.toUInt32 31)).toInt32) &&& 1431655765))).toUInt32 >>> ((2 : Int32).toUInt32 &&& Int32.toUInt32 31)).toInt32) &&& 858993459)) + ((((((x0 - ((((x0).toUInt32 >>> ((1 : Int32).toUInt32 &&& Int32.toUInt32 31)).toInt32) &&& 1431655765)) &&& 858993459) + (((((x0 - ((((x0).toUInt32 >>> ((1 : Int32).toUInt32 &&& Int32.toUInt32 31)).toInt32) &&& 1431655765))).toUInt32 >>> ((2 : Int32).toUInt32 &&& Int32.toUInt32 31)).toInt32) &&& 858993459))).toUInt32 >>> ((4 : Int32).toUInt32 &&& Int32.toUInt32 31)).toInt32)) &&& 252645135) + ((((((((x0 - ((((x0).toUInt32 >>> ((1 : Int32).toUInt32 &&& Int32.toUInt32 31)).toInt32) &&& 1431655765)) &&& 858993459) + (((((x0 - ((((x0).toUInt32 >>> ((1 : Int32).toUInt32 &&& Int32.toUInt32 31)).toInt32) &&& 1431655765))).toUInt32 >>> ((2 : Int32).toUInt32 &&& Int32.toUInt32 31)).toInt32) &&& 858993459)) + ((((((x0 - ((((x0).toUInt32 >>> ((1 : Int32).toUInt32 &&& Int32.toUInt32 31)).toInt32) &&& 1431655765)) &&& 858993459) + (((((x0 - ((((x0).toUInt32 >>> ((1 : Int32).toUInt32 &&& Int32.toUInt32 31)).toInt32) &&& 1431655765))).toUInt32 >>> ((2 : Int32).toUInt32 &&& Int32.toUInt32 31)).toInt32) &&& 858993459))).toUInt32 >>> ((4 : Int32).toUInt32 &&& Int32.toUInt32 31)).toInt32)) &&& 252645135)).toUInt32 >>> ((8 : Int32).toUInt32 &&& Int32.toUInt32 31)).toInt32))).toUInt32 >>> ((16 : Int32).toUInt32 &&& Int32.toUInt32 31)).toInt32)) &&& 63)
set_option maxHeartbeats 4000000 in
set_option maxRecDepth 100000 in
theorem kJ6_bitCount_0f7a4 (l : Launch) (D : va_G) (ca : Nat → ClassId) (ad : ow_Ad) (A : Nat → Prop) (st : ow_St) (x0 : Int32) : Met l yJ6_bitCount_0f7a4 wsJ6_bitCount_0f7a4 ({ frames := 0, cells := 0, slots := 0, locals := 0 }) (va_Pc [.int x0] (ow_W D ca ad A st)) (va_Qi (fun r st' => r = (fJ6_bitCount_0f7a4 st x0) ∧ st' = st) (ow_B D ca ad) A) 0 0 A := by
  refine Met.ofW (cc := cJ6_bitCount_0f7a4) (maxL := 1) (ret := (some .int)) (by decide) rfl ?_
  intro p e s m args below meth c s₁ B hml hv
  obtain ⟨rfl, hP, hC⟩ := hv
  have hx := B.exec
  have hb := B.bytes
  have hr := B.returns
  have hts := atoms_spec (ws := wsJ6_bitCount_0f7a4) B.pre
  have hown : s.vm.findClass RJ6 = some m.cls := findClass_of_methodNamed B.named
  have hlocks := B.notSynchronized
  have hS : va_S A s.heap s.heap [] := va_S.rf
  have hl := lv_entry ([.int x0]) (n := 1) (Nat.le_of_ble_eq_true rfl)
  rw [lg_entry_eq]
  generalize (lg_sl ([.int x0]) ++ List.replicate (1 - (lg_sl ([.int x0])).length) Slot.unset).toArray = ls at hl ⊢
  have hl : lv_has ls 1 [(0, .int x0)] := hl
  refine lv_iload_n hx hb dJ6_bitCount_0f7a4_0 rfl (lv_at hl 0 rfl) ?_
  refine lv_iload_n hx hb dJ6_bitCount_0f7a4_1 rfl (lv_at hl 0 rfl) ?_
  refine lv_iconst (v := 1) hx hb dJ6_bitCount_0f7a4_2 (by decide) ?_
  refine lv_iushr (v := ((x0).toUInt32 >>> ((1 : Int32).toUInt32 &&& Int32.toUInt32 31)).toInt32) hx hb dJ6_bitCount_0f7a4_3 rfl ?_
  refine lv_ldcw (v := 1431655765) hx hb hown (hts _ lk_J6_bitCount_0f7a4_0) dJ6_bitCount_0f7a4_4 ?_
  refine lv_iand hx hb dJ6_bitCount_0f7a4_7 ?_
  refine lv_isub hx hb dJ6_bitCount_0f7a4_8 ?_
  refine lv_istore_n (lv' := [(0, .int (x0 - ((((x0).toUInt32 >>> ((1 : Int32).toUInt32 &&& Int32.toUInt32 31)).toInt32) &&& 1431655765)))]) hx hb dJ6_bitCount_0f7a4_9 rfl hl (by decide) rfl (fun ls hl => ?_)
  refine lv_iload_n hx hb dJ6_bitCount_0f7a4_10 rfl (lv_at hl 0 rfl) ?_
  refine lv_ldcw (v := 858993459) hx hb hown (hts _ lk_J6_bitCount_0f7a4_1) dJ6_bitCount_0f7a4_11 ?_
  refine lv_iand hx hb dJ6_bitCount_0f7a4_14 ?_
  refine lv_iload_n hx hb dJ6_bitCount_0f7a4_15 rfl (lv_at hl 0 rfl) ?_
  refine lv_iconst (v := 2) hx hb dJ6_bitCount_0f7a4_16 (by decide) ?_
  refine lv_iushr (v := (((x0 - ((((x0).toUInt32 >>> ((1 : Int32).toUInt32 &&& Int32.toUInt32 31)).toInt32) &&& 1431655765))).toUInt32 >>> ((2 : Int32).toUInt32 &&& Int32.toUInt32 31)).toInt32) hx hb dJ6_bitCount_0f7a4_17 rfl ?_
  refine lv_ldcw (v := 858993459) hx hb hown (hts _ lk_J6_bitCount_0f7a4_1) dJ6_bitCount_0f7a4_18 ?_
  refine lv_iand hx hb dJ6_bitCount_0f7a4_21 ?_
  refine lv_iadd hx hb dJ6_bitCount_0f7a4_22 ?_
  refine lv_istore_n (lv' := [(0, .int (((x0 - ((((x0).toUInt32 >>> ((1 : Int32).toUInt32 &&& Int32.toUInt32 31)).toInt32) &&& 1431655765)) &&& 858993459) + (((((x0 - ((((x0).toUInt32 >>> ((1 : Int32).toUInt32 &&& Int32.toUInt32 31)).toInt32) &&& 1431655765))).toUInt32 >>> ((2 : Int32).toUInt32 &&& Int32.toUInt32 31)).toInt32) &&& 858993459)))]) hx hb dJ6_bitCount_0f7a4_23 rfl hl (by decide) rfl (fun ls hl => ?_)
  refine lv_iload_n hx hb dJ6_bitCount_0f7a4_24 rfl (lv_at hl 0 rfl) ?_
  refine lv_iload_n hx hb dJ6_bitCount_0f7a4_25 rfl (lv_at hl 0 rfl) ?_
  refine lv_iconst (v := 4) hx hb dJ6_bitCount_0f7a4_26 (by decide) ?_
  refine lv_iushr (v := (((((x0 - ((((x0).toUInt32 >>> ((1 : Int32).toUInt32 &&& Int32.toUInt32 31)).toInt32) &&& 1431655765)) &&& 858993459) + (((((x0 - ((((x0).toUInt32 >>> ((1 : Int32).toUInt32 &&& Int32.toUInt32 31)).toInt32) &&& 1431655765))).toUInt32 >>> ((2 : Int32).toUInt32 &&& Int32.toUInt32 31)).toInt32) &&& 858993459))).toUInt32 >>> ((4 : Int32).toUInt32 &&& Int32.toUInt32 31)).toInt32) hx hb dJ6_bitCount_0f7a4_27 rfl ?_
  refine lv_iadd hx hb dJ6_bitCount_0f7a4_28 ?_
  refine lv_ldcw (v := 252645135) hx hb hown (hts _ lk_J6_bitCount_0f7a4_2) dJ6_bitCount_0f7a4_29 ?_
  refine lv_iand hx hb dJ6_bitCount_0f7a4_32 ?_
  refine lv_istore_n (lv' := [(0, .int (((((x0 - ((((x0).toUInt32 >>> ((1 : Int32).toUInt32 &&& Int32.toUInt32 31)).toInt32) &&& 1431655765)) &&& 858993459) + (((((x0 - ((((x0).toUInt32 >>> ((1 : Int32).toUInt32 &&& Int32.toUInt32 31)).toInt32) &&& 1431655765))).toUInt32 >>> ((2 : Int32).toUInt32 &&& Int32.toUInt32 31)).toInt32) &&& 858993459)) + ((((((x0 - ((((x0).toUInt32 >>> ((1 : Int32).toUInt32 &&& Int32.toUInt32 31)).toInt32) &&& 1431655765)) &&& 858993459) + (((((x0 - ((((x0).toUInt32 >>> ((1 : Int32).toUInt32 &&& Int32.toUInt32 31)).toInt32) &&& 1431655765))).toUInt32 >>> ((2 : Int32).toUInt32 &&& Int32.toUInt32 31)).toInt32) &&& 858993459))).toUInt32 >>> ((4 : Int32).toUInt32 &&& Int32.toUInt32 31)).toInt32)) &&& 252645135))]) hx hb dJ6_bitCount_0f7a4_33 rfl hl (by decide) rfl (fun ls hl => ?_)
  refine lv_iload_n hx hb dJ6_bitCount_0f7a4_34 rfl (lv_at hl 0 rfl) ?_
  refine lv_iload_n hx hb dJ6_bitCount_0f7a4_35 rfl (lv_at hl 0 rfl) ?_
  refine lv_bipush (v := 8) hx hb dJ6_bitCount_0f7a4_36 (by decide) ?_
  refine lv_iushr (v := (((((((x0 - ((((x0).toUInt32 >>> ((1 : Int32).toUInt32 &&& Int32.toUInt32 31)).toInt32) &&& 1431655765)) &&& 858993459) + (((((x0 - ((((x0).toUInt32 >>> ((1 : Int32).toUInt32 &&& Int32.toUInt32 31)).toInt32) &&& 1431655765))).toUInt32 >>> ((2 : Int32).toUInt32 &&& Int32.toUInt32 31)).toInt32) &&& 858993459)) + ((((((x0 - ((((x0).toUInt32 >>> ((1 : Int32).toUInt32 &&& Int32.toUInt32 31)).toInt32) &&& 1431655765)) &&& 858993459) + (((((x0 - ((((x0).toUInt32 >>> ((1 : Int32).toUInt32 &&& Int32.toUInt32 31)).toInt32) &&& 1431655765))).toUInt32 >>> ((2 : Int32).toUInt32 &&& Int32.toUInt32 31)).toInt32) &&& 858993459))).toUInt32 >>> ((4 : Int32).toUInt32 &&& Int32.toUInt32 31)).toInt32)) &&& 252645135)).toUInt32 >>> ((8 : Int32).toUInt32 &&& Int32.toUInt32 31)).toInt32) hx hb dJ6_bitCount_0f7a4_38 rfl ?_
  refine lv_iadd hx hb dJ6_bitCount_0f7a4_39 ?_
  refine lv_istore_n (lv' := [(0, .int ((((((x0 - ((((x0).toUInt32 >>> ((1 : Int32).toUInt32 &&& Int32.toUInt32 31)).toInt32) &&& 1431655765)) &&& 858993459) + (((((x0 - ((((x0).toUInt32 >>> ((1 : Int32).toUInt32 &&& Int32.toUInt32 31)).toInt32) &&& 1431655765))).toUInt32 >>> ((2 : Int32).toUInt32 &&& Int32.toUInt32 31)).toInt32) &&& 858993459)) + ((((((x0 - ((((x0).toUInt32 >>> ((1 : Int32).toUInt32 &&& Int32.toUInt32 31)).toInt32) &&& 1431655765)) &&& 858993459) + (((((x0 - ((((x0).toUInt32 >>> ((1 : Int32).toUInt32 &&& Int32.toUInt32 31)).toInt32) &&& 1431655765))).toUInt32 >>> ((2 : Int32).toUInt32 &&& Int32.toUInt32 31)).toInt32) &&& 858993459))).toUInt32 >>> ((4 : Int32).toUInt32 &&& Int32.toUInt32 31)).toInt32)) &&& 252645135) + ((((((((x0 - ((((x0).toUInt32 >>> ((1 : Int32).toUInt32 &&& Int32.toUInt32 31)).toInt32) &&& 1431655765)) &&& 858993459) + (((((x0 - ((((x0).toUInt32 >>> ((1 : Int32).toUInt32 &&& Int32.toUInt32 31)).toInt32) &&& 1431655765))).toUInt32 >>> ((2 : Int32).toUInt32 &&& Int32.toUInt32 31)).toInt32) &&& 858993459)) + ((((((x0 - ((((x0).toUInt32 >>> ((1 : Int32).toUInt32 &&& Int32.toUInt32 31)).toInt32) &&& 1431655765)) &&& 858993459) + (((((x0 - ((((x0).toUInt32 >>> ((1 : Int32).toUInt32 &&& Int32.toUInt32 31)).toInt32) &&& 1431655765))).toUInt32 >>> ((2 : Int32).toUInt32 &&& Int32.toUInt32 31)).toInt32) &&& 858993459))).toUInt32 >>> ((4 : Int32).toUInt32 &&& Int32.toUInt32 31)).toInt32)) &&& 252645135)).toUInt32 >>> ((8 : Int32).toUInt32 &&& Int32.toUInt32 31)).toInt32)))]) hx hb dJ6_bitCount_0f7a4_40 rfl hl (by decide) rfl (fun ls hl => ?_)
  refine lv_iload_n hx hb dJ6_bitCount_0f7a4_41 rfl (lv_at hl 0 rfl) ?_
  refine lv_iload_n hx hb dJ6_bitCount_0f7a4_42 rfl (lv_at hl 0 rfl) ?_
  refine lv_bipush (v := 16) hx hb dJ6_bitCount_0f7a4_43 (by decide) ?_
  refine lv_iushr (v := ((((((((x0 - ((((x0).toUInt32 >>> ((1 : Int32).toUInt32 &&& Int32.toUInt32 31)).toInt32) &&& 1431655765)) &&& 858993459) + (((((x0 - ((((x0).toUInt32 >>> ((1 : Int32).toUInt32 &&& Int32.toUInt32 31)).toInt32) &&& 1431655765))).toUInt32 >>> ((2 : Int32).toUInt32 &&& Int32.toUInt32 31)).toInt32) &&& 858993459)) + ((((((x0 - ((((x0).toUInt32 >>> ((1 : Int32).toUInt32 &&& Int32.toUInt32 31)).toInt32) &&& 1431655765)) &&& 858993459) + (((((x0 - ((((x0).toUInt32 >>> ((1 : Int32).toUInt32 &&& Int32.toUInt32 31)).toInt32) &&& 1431655765))).toUInt32 >>> ((2 : Int32).toUInt32 &&& Int32.toUInt32 31)).toInt32) &&& 858993459))).toUInt32 >>> ((4 : Int32).toUInt32 &&& Int32.toUInt32 31)).toInt32)) &&& 252645135) + ((((((((x0 - ((((x0).toUInt32 >>> ((1 : Int32).toUInt32 &&& Int32.toUInt32 31)).toInt32) &&& 1431655765)) &&& 858993459) + (((((x0 - ((((x0).toUInt32 >>> ((1 : Int32).toUInt32 &&& Int32.toUInt32 31)).toInt32) &&& 1431655765))).toUInt32 >>> ((2 : Int32).toUInt32 &&& Int32.toUInt32 31)).toInt32) &&& 858993459)) + ((((((x0 - ((((x0).toUInt32 >>> ((1 : Int32).toUInt32 &&& Int32.toUInt32 31)).toInt32) &&& 1431655765)) &&& 858993459) + (((((x0 - ((((x0).toUInt32 >>> ((1 : Int32).toUInt32 &&& Int32.toUInt32 31)).toInt32) &&& 1431655765))).toUInt32 >>> ((2 : Int32).toUInt32 &&& Int32.toUInt32 31)).toInt32) &&& 858993459))).toUInt32 >>> ((4 : Int32).toUInt32 &&& Int32.toUInt32 31)).toInt32)) &&& 252645135)).toUInt32 >>> ((8 : Int32).toUInt32 &&& Int32.toUInt32 31)).toInt32))).toUInt32 >>> ((16 : Int32).toUInt32 &&& Int32.toUInt32 31)).toInt32) hx hb dJ6_bitCount_0f7a4_45 rfl ?_
  refine lv_iadd hx hb dJ6_bitCount_0f7a4_46 ?_
  refine lv_istore_n (lv' := [(0, .int (((((((x0 - ((((x0).toUInt32 >>> ((1 : Int32).toUInt32 &&& Int32.toUInt32 31)).toInt32) &&& 1431655765)) &&& 858993459) + (((((x0 - ((((x0).toUInt32 >>> ((1 : Int32).toUInt32 &&& Int32.toUInt32 31)).toInt32) &&& 1431655765))).toUInt32 >>> ((2 : Int32).toUInt32 &&& Int32.toUInt32 31)).toInt32) &&& 858993459)) + ((((((x0 - ((((x0).toUInt32 >>> ((1 : Int32).toUInt32 &&& Int32.toUInt32 31)).toInt32) &&& 1431655765)) &&& 858993459) + (((((x0 - ((((x0).toUInt32 >>> ((1 : Int32).toUInt32 &&& Int32.toUInt32 31)).toInt32) &&& 1431655765))).toUInt32 >>> ((2 : Int32).toUInt32 &&& Int32.toUInt32 31)).toInt32) &&& 858993459))).toUInt32 >>> ((4 : Int32).toUInt32 &&& Int32.toUInt32 31)).toInt32)) &&& 252645135) + ((((((((x0 - ((((x0).toUInt32 >>> ((1 : Int32).toUInt32 &&& Int32.toUInt32 31)).toInt32) &&& 1431655765)) &&& 858993459) + (((((x0 - ((((x0).toUInt32 >>> ((1 : Int32).toUInt32 &&& Int32.toUInt32 31)).toInt32) &&& 1431655765))).toUInt32 >>> ((2 : Int32).toUInt32 &&& Int32.toUInt32 31)).toInt32) &&& 858993459)) + ((((((x0 - ((((x0).toUInt32 >>> ((1 : Int32).toUInt32 &&& Int32.toUInt32 31)).toInt32) &&& 1431655765)) &&& 858993459) + (((((x0 - ((((x0).toUInt32 >>> ((1 : Int32).toUInt32 &&& Int32.toUInt32 31)).toInt32) &&& 1431655765))).toUInt32 >>> ((2 : Int32).toUInt32 &&& Int32.toUInt32 31)).toInt32) &&& 858993459))).toUInt32 >>> ((4 : Int32).toUInt32 &&& Int32.toUInt32 31)).toInt32)) &&& 252645135)).toUInt32 >>> ((8 : Int32).toUInt32 &&& Int32.toUInt32 31)).toInt32)) + (((((((((x0 - ((((x0).toUInt32 >>> ((1 : Int32).toUInt32 &&& Int32.toUInt32 31)).toInt32) &&& 1431655765)) &&& 858993459) + (((((x0 - ((((x0).toUInt32 >>> ((1 : Int32).toUInt32 &&& Int32.toUInt32 31)).toInt32) &&& 1431655765))).toUInt32 >>> ((2 : Int32).toUInt32 &&& Int32.toUInt32 31)).toInt32) &&& 858993459)) + ((((((x0 - ((((x0).toUInt32 >>> ((1 : Int32).toUInt32 &&& Int32.toUInt32 31)).toInt32) &&& 1431655765)) &&& 858993459) + (((((x0 - ((((x0).toUInt32 >>> ((1 : Int32).toUInt32 &&& Int32.toUInt32 31)).toInt32) &&& 1431655765))).toUInt32 >>> ((2 : Int32).toUInt32 &&& Int32.toUInt32 31)).toInt32) &&& 858993459))).toUInt32 >>> ((4 : Int32).toUInt32 &&& Int32.toUInt32 31)).toInt32)) &&& 252645135) + ((((((((x0 - ((((x0).toUInt32 >>> ((1 : Int32).toUInt32 &&& Int32.toUInt32 31)).toInt32) &&& 1431655765)) &&& 858993459) + (((((x0 - ((((x0).toUInt32 >>> ((1 : Int32).toUInt32 &&& Int32.toUInt32 31)).toInt32) &&& 1431655765))).toUInt32 >>> ((2 : Int32).toUInt32 &&& Int32.toUInt32 31)).toInt32) &&& 858993459)) + ((((((x0 - ((((x0).toUInt32 >>> ((1 : Int32).toUInt32 &&& Int32.toUInt32 31)).toInt32) &&& 1431655765)) &&& 858993459) + (((((x0 - ((((x0).toUInt32 >>> ((1 : Int32).toUInt32 &&& Int32.toUInt32 31)).toInt32) &&& 1431655765))).toUInt32 >>> ((2 : Int32).toUInt32 &&& Int32.toUInt32 31)).toInt32) &&& 858993459))).toUInt32 >>> ((4 : Int32).toUInt32 &&& Int32.toUInt32 31)).toInt32)) &&& 252645135)).toUInt32 >>> ((8 : Int32).toUInt32 &&& Int32.toUInt32 31)).toInt32))).toUInt32 >>> ((16 : Int32).toUInt32 &&& Int32.toUInt32 31)).toInt32)))]) hx hb dJ6_bitCount_0f7a4_47 rfl hl (by decide) rfl (fun ls hl => ?_)
  refine lv_iload_n hx hb dJ6_bitCount_0f7a4_48 rfl (lv_at hl 0 rfl) ?_
  refine lv_bipush (v := 63) hx hb dJ6_bitCount_0f7a4_49 (by decide) ?_
  refine lv_iand hx hb dJ6_bitCount_0f7a4_51 ?_
  exact W.iret (v := ((((((((x0 - ((((x0).toUInt32 >>> ((1 : Int32).toUInt32 &&& Int32.toUInt32 31)).toInt32) &&& 1431655765)) &&& 858993459) + (((((x0 - ((((x0).toUInt32 >>> ((1 : Int32).toUInt32 &&& Int32.toUInt32 31)).toInt32) &&& 1431655765))).toUInt32 >>> ((2 : Int32).toUInt32 &&& Int32.toUInt32 31)).toInt32) &&& 858993459)) + ((((((x0 - ((((x0).toUInt32 >>> ((1 : Int32).toUInt32 &&& Int32.toUInt32 31)).toInt32) &&& 1431655765)) &&& 858993459) + (((((x0 - ((((x0).toUInt32 >>> ((1 : Int32).toUInt32 &&& Int32.toUInt32 31)).toInt32) &&& 1431655765))).toUInt32 >>> ((2 : Int32).toUInt32 &&& Int32.toUInt32 31)).toInt32) &&& 858993459))).toUInt32 >>> ((4 : Int32).toUInt32 &&& Int32.toUInt32 31)).toInt32)) &&& 252645135) + ((((((((x0 - ((((x0).toUInt32 >>> ((1 : Int32).toUInt32 &&& Int32.toUInt32 31)).toInt32) &&& 1431655765)) &&& 858993459) + (((((x0 - ((((x0).toUInt32 >>> ((1 : Int32).toUInt32 &&& Int32.toUInt32 31)).toInt32) &&& 1431655765))).toUInt32 >>> ((2 : Int32).toUInt32 &&& Int32.toUInt32 31)).toInt32) &&& 858993459)) + ((((((x0 - ((((x0).toUInt32 >>> ((1 : Int32).toUInt32 &&& Int32.toUInt32 31)).toInt32) &&& 1431655765)) &&& 858993459) + (((((x0 - ((((x0).toUInt32 >>> ((1 : Int32).toUInt32 &&& Int32.toUInt32 31)).toInt32) &&& 1431655765))).toUInt32 >>> ((2 : Int32).toUInt32 &&& Int32.toUInt32 31)).toInt32) &&& 858993459))).toUInt32 >>> ((4 : Int32).toUInt32 &&& Int32.toUInt32 31)).toInt32)) &&& 252645135)).toUInt32 >>> ((8 : Int32).toUInt32 &&& Int32.toUInt32 31)).toInt32)) + (((((((((x0 - ((((x0).toUInt32 >>> ((1 : Int32).toUInt32 &&& Int32.toUInt32 31)).toInt32) &&& 1431655765)) &&& 858993459) + (((((x0 - ((((x0).toUInt32 >>> ((1 : Int32).toUInt32 &&& Int32.toUInt32 31)).toInt32) &&& 1431655765))).toUInt32 >>> ((2 : Int32).toUInt32 &&& Int32.toUInt32 31)).toInt32) &&& 858993459)) + ((((((x0 - ((((x0).toUInt32 >>> ((1 : Int32).toUInt32 &&& Int32.toUInt32 31)).toInt32) &&& 1431655765)) &&& 858993459) + (((((x0 - ((((x0).toUInt32 >>> ((1 : Int32).toUInt32 &&& Int32.toUInt32 31)).toInt32) &&& 1431655765))).toUInt32 >>> ((2 : Int32).toUInt32 &&& Int32.toUInt32 31)).toInt32) &&& 858993459))).toUInt32 >>> ((4 : Int32).toUInt32 &&& Int32.toUInt32 31)).toInt32)) &&& 252645135) + ((((((((x0 - ((((x0).toUInt32 >>> ((1 : Int32).toUInt32 &&& Int32.toUInt32 31)).toInt32) &&& 1431655765)) &&& 858993459) + (((((x0 - ((((x0).toUInt32 >>> ((1 : Int32).toUInt32 &&& Int32.toUInt32 31)).toInt32) &&& 1431655765))).toUInt32 >>> ((2 : Int32).toUInt32 &&& Int32.toUInt32 31)).toInt32) &&& 858993459)) + ((((((x0 - ((((x0).toUInt32 >>> ((1 : Int32).toUInt32 &&& Int32.toUInt32 31)).toInt32) &&& 1431655765)) &&& 858993459) + (((((x0 - ((((x0).toUInt32 >>> ((1 : Int32).toUInt32 &&& Int32.toUInt32 31)).toInt32) &&& 1431655765))).toUInt32 >>> ((2 : Int32).toUInt32 &&& Int32.toUInt32 31)).toInt32) &&& 858993459))).toUInt32 >>> ((4 : Int32).toUInt32 &&& Int32.toUInt32 31)).toInt32)) &&& 252645135)).toUInt32 >>> ((8 : Int32).toUInt32 &&& Int32.toUInt32 31)).toInt32))).toUInt32 >>> ((16 : Int32).toUInt32 &&& Int32.toUInt32 31)).toInt32)) &&& 63)) hx hb hr (fun t ht hW => ⟨⟨((((((((x0 - ((((x0).toUInt32 >>> ((1 : Int32).toUInt32 &&& Int32.toUInt32 31)).toInt32) &&& 1431655765)) &&& 858993459) + (((((x0 - ((((x0).toUInt32 >>> ((1 : Int32).toUInt32 &&& Int32.toUInt32 31)).toInt32) &&& 1431655765))).toUInt32 >>> ((2 : Int32).toUInt32 &&& Int32.toUInt32 31)).toInt32) &&& 858993459)) + ((((((x0 - ((((x0).toUInt32 >>> ((1 : Int32).toUInt32 &&& Int32.toUInt32 31)).toInt32) &&& 1431655765)) &&& 858993459) + (((((x0 - ((((x0).toUInt32 >>> ((1 : Int32).toUInt32 &&& Int32.toUInt32 31)).toInt32) &&& 1431655765))).toUInt32 >>> ((2 : Int32).toUInt32 &&& Int32.toUInt32 31)).toInt32) &&& 858993459))).toUInt32 >>> ((4 : Int32).toUInt32 &&& Int32.toUInt32 31)).toInt32)) &&& 252645135) + ((((((((x0 - ((((x0).toUInt32 >>> ((1 : Int32).toUInt32 &&& Int32.toUInt32 31)).toInt32) &&& 1431655765)) &&& 858993459) + (((((x0 - ((((x0).toUInt32 >>> ((1 : Int32).toUInt32 &&& Int32.toUInt32 31)).toInt32) &&& 1431655765))).toUInt32 >>> ((2 : Int32).toUInt32 &&& Int32.toUInt32 31)).toInt32) &&& 858993459)) + ((((((x0 - ((((x0).toUInt32 >>> ((1 : Int32).toUInt32 &&& Int32.toUInt32 31)).toInt32) &&& 1431655765)) &&& 858993459) + (((((x0 - ((((x0).toUInt32 >>> ((1 : Int32).toUInt32 &&& Int32.toUInt32 31)).toInt32) &&& 1431655765))).toUInt32 >>> ((2 : Int32).toUInt32 &&& Int32.toUInt32 31)).toInt32) &&& 858993459))).toUInt32 >>> ((4 : Int32).toUInt32 &&& Int32.toUInt32 31)).toInt32)) &&& 252645135)).toUInt32 >>> ((8 : Int32).toUInt32 &&& Int32.toUInt32 31)).toInt32)) + (((((((((x0 - ((((x0).toUInt32 >>> ((1 : Int32).toUInt32 &&& Int32.toUInt32 31)).toInt32) &&& 1431655765)) &&& 858993459) + (((((x0 - ((((x0).toUInt32 >>> ((1 : Int32).toUInt32 &&& Int32.toUInt32 31)).toInt32) &&& 1431655765))).toUInt32 >>> ((2 : Int32).toUInt32 &&& Int32.toUInt32 31)).toInt32) &&& 858993459)) + ((((((x0 - ((((x0).toUInt32 >>> ((1 : Int32).toUInt32 &&& Int32.toUInt32 31)).toInt32) &&& 1431655765)) &&& 858993459) + (((((x0 - ((((x0).toUInt32 >>> ((1 : Int32).toUInt32 &&& Int32.toUInt32 31)).toInt32) &&& 1431655765))).toUInt32 >>> ((2 : Int32).toUInt32 &&& Int32.toUInt32 31)).toInt32) &&& 858993459))).toUInt32 >>> ((4 : Int32).toUInt32 &&& Int32.toUInt32 31)).toInt32)) &&& 252645135) + ((((((((x0 - ((((x0).toUInt32 >>> ((1 : Int32).toUInt32 &&& Int32.toUInt32 31)).toInt32) &&& 1431655765)) &&& 858993459) + (((((x0 - ((((x0).toUInt32 >>> ((1 : Int32).toUInt32 &&& Int32.toUInt32 31)).toInt32) &&& 1431655765))).toUInt32 >>> ((2 : Int32).toUInt32 &&& Int32.toUInt32 31)).toInt32) &&& 858993459)) + ((((((x0 - ((((x0).toUInt32 >>> ((1 : Int32).toUInt32 &&& Int32.toUInt32 31)).toInt32) &&& 1431655765)) &&& 858993459) + (((((x0 - ((((x0).toUInt32 >>> ((1 : Int32).toUInt32 &&& Int32.toUInt32 31)).toInt32) &&& 1431655765))).toUInt32 >>> ((2 : Int32).toUInt32 &&& Int32.toUInt32 31)).toInt32) &&& 858993459))).toUInt32 >>> ((4 : Int32).toUInt32 &&& Int32.toUInt32 31)).toInt32)) &&& 252645135)).toUInt32 >>> ((8 : Int32).toUInt32 &&& Int32.toUInt32 31)).toInt32))).toUInt32 >>> ((16 : Int32).toUInt32 &&& Int32.toUInt32 31)).toInt32)) &&& 63), st, rfl, ⟨(by simp only [fJ6_bitCount_0f7a4]), rfl⟩, ow_Bi ht hP⟩, hS.F ht⟩) hS.2.2 dJ6_bitCount_0f7a4_52

theorem li_X0_has_X0 : ∀ w ∈ u_ws RX0 TX0 7, w ∈ wsX0_has := by decide +kernel
theorem lk_X0_has_1 : (.fieldLink RX0 26 "RecordLabels$Kind" "size" "I" : Cond) ∈ wsX0_has := by decide +kernel
def fX0_has (st : ow_St) (k : Nat) (x1 : Int32) : Int32 := (if x1 < 0 then 0 else (if (nI (mn k)) ≤ x1 then 0 else 1))
set_option maxHeartbeats 4000000 in
set_option maxRecDepth 100000 in
theorem kX0_has (l : Launch) (D : va_G) (ca : Nat → ClassId) (ad : ow_Ad) (A : Nat → Prop) (st : ow_St) (k : Nat) (hk : k < 3) (x1 : Int32) : Met l yX0_has wsX0_has ({ frames := 0, cells := 0, slots := 0, locals := 0 }) (va_Pc [.ref (ad 1 k), .int x1] (ow_W D ca ad A st)) (va_Qi (fun r st' => r = (fX0_has st k x1) ∧ st' = st) (ow_B D ca ad) A) 0 0 A := by
  refine Met.ofW (cc := cX0_has) (maxL := 2) (ret := (some .boolean)) (by decide) rfl ?_
  intro p e s m args below meth c s₁ B hml hv
  obtain ⟨rfl, hP, hC⟩ := hv
  have hx := B.exec
  have hb := B.bytes
  have hr := B.returns
  have hts := atoms_spec (ws := wsX0_has) B.pre
  have hown : s.vm.findClass RX0 = some m.cls := findClass_of_methodNamed B.named
  have hlocks := B.notSynchronized
  have hS : va_S A s.heap s.heap [] := va_S.rf
  have hl := lv_entry ([.ref (ad 1 k), .int x1]) (n := 2) (Nat.le_of_ble_eq_true rfl)
  rw [lg_entry_eq]
  generalize (lg_sl ([.ref (ad 1 k), .int x1]) ++ List.replicate (2 - (lg_sl ([.ref (ad 1 k), .int x1])).length) Slot.unset).toArray = ls at hl ⊢
  have hl : lv_has ls 2 [(0, .ref (ad 1 k)), (1, .int x1)] := hl
  refine lv_iload_n hx hb dX0_has_0 rfl (lv_at hl 1 rfl) ?_
  refine lv_if_lt (tgt := 16) hx hb dX0_has_1 (by decide) (fun c_1 => ?_) (fun c_1 => ?_)
  · refine lv_iconst (v := 0) hx hb dX0_has_16 (by decide) ?_
    exact W.zret (v := 0) hx hb hr rfl (fun t ht hW => ⟨⟨0, st, rfl, ⟨(by simp only [fX0_has, if_pos c_1]), rfl⟩, ow_Bi ht hP⟩, hS.F ht⟩) hS.2.2 dX0_has_17
  · refine lv_iload_n hx hb dX0_has_4 rfl (lv_at hl 1 rfl) ?_
    refine lv_aload_n hx hb dX0_has_5 rfl (lv_at hl 0 rfl) ?_
    refine og_get (C := RX0) (T := TX0) (N := 7) (g := 1) (i := k) (v := .int (nI (mn k))) hx hb hts li_X0_has_X0 hown hC hP (ow_m1 hk) rfl rfl 2 (by decide) (hts _ lk_X0_has_1) rfl rfl dX0_has_6 ?_
    refine lv_icmp_ge (tgt := 16) hx hb dX0_has_9 (by decide) (fun c_2 => ?_) (fun c_2 => ?_)
    · refine lv_iconst (v := 0) hx hb dX0_has_16 (by decide) ?_
      exact W.zret (v := 0) hx hb hr rfl (fun t ht hW => ⟨⟨0, st, rfl, ⟨(by simp only [fX0_has, if_neg c_1, if_pos c_2]), rfl⟩, ow_Bi ht hP⟩, hS.F ht⟩) hS.2.2 dX0_has_17
    · refine lv_iconst (v := 1) hx hb dX0_has_12 (by decide) ?_
      refine lv_goto (tgt := 17) hx hb dX0_has_13 (by decide) ?_
      exact W.zret (v := 1) hx hb hr rfl (fun t ht hW => ⟨⟨1, st, rfl, ⟨(by simp only [fX0_has, if_neg c_1, if_neg c_2]), rfl⟩, ow_Bi ht hP⟩, hS.F ht⟩) hS.2.2 dX0_has_17

theorem has_in {st : ow_St} {k : Nat} {x : Int32} (h : ¬ fX0_has st k x = 0) : vp_in x (mn k) := by
  unfold fX0_has at h
  by_cases c1 : x < 0
  · rw [if_pos c1] at h
    exact absurd rfl h
  · rw [if_neg c1] at h
    by_cases c2 : nI (mn k) ≤ x
    · rw [if_pos c2] at h
      exact absurd rfl h
    · exact ow_in (ow_mn k) c1 c2
theorem vp_lt {x : Int32} {n : Nat} (h : vp_in x n) : x.toNatClampNeg < n := Nat.not_le.mp fun q => h (Or.inr q)

theorem li_X0_constantOf_X0 : ∀ w ∈ u_ws RX0 TX0 7, w ∈ wsX0_constantOf := by decide +kernel
theorem lk_X0_constantOf_1 : (.fieldLink RX0 29 "RecordLabels$Kind" "constants" "[I" : Cond) ∈ wsX0_constantOf := by decide +kernel
def fX0_constantOf (st : ow_St) (k : Nat) (x1 : Int32) : Int32 := (if (fX0_has st k x1) = 0 then (-1) else (st.1 (100 + 4 * k) x1.toNatClampNeg))
set_option maxHeartbeats 4000000 in
set_option maxRecDepth 100000 in
theorem kX0_constantOf (l : Launch) (D : va_G) (ca : Nat → ClassId) (ad : ow_Ad) (A : Nat → Prop) (st : ow_St) (k : Nat) (hk : k < 3) (x1 : Int32) : Met l yX0_constantOf wsX0_constantOf ({ frames := 1, cells := 0, slots := 0, locals := 21 }) (va_Pc [.ref (ad 1 k), .int x1] (ow_W D ca ad A st)) (va_Qi (fun r st' => r = (fX0_constantOf st k x1) ∧ st' = st) (ow_B D ca ad) A) 0 0 A := by
  refine Met.ofW (cc := cX0_constantOf) (maxL := 2) (ret := (some .int)) (by decide) rfl ?_
  intro p e s m args below meth c s₁ B hml hv
  obtain ⟨rfl, hP, hC⟩ := hv
  have hx := B.exec
  have hb := B.bytes
  have hr := B.returns
  have hts := atoms_spec (ws := wsX0_constantOf) B.pre
  have hown : s.vm.findClass RX0 = some m.cls := findClass_of_methodNamed B.named
  have hlocks := B.notSynchronized
  have hS : va_S A s.heap s.heap [] := va_S.rf
  have hl := lv_entry ([.ref (ad 1 k), .int x1]) (n := 2) (Nat.le_of_ble_eq_true rfl)
  rw [lg_entry_eq]
  generalize (lg_sl ([.ref (ad 1 k), .int x1]) ++ List.replicate (2 - (lg_sl ([.ref (ad 1 k), .int x1])).length) Slot.unset).toArray = ls at hl ⊢
  have hl : lv_has ls 2 [(0, .ref (ad 1 k)), (1, .int x1)] := hl
  refine lv_aload_n hx hb dX0_constantOf_0 rfl (lv_at hl 0 rfl) ?_
  refine lv_iload_n hx hb dX0_constantOf_1 rfl (lv_at hl 1 rfl) ?_
  refine og_ciP (og_runV (C := RX0) (T := TX0) (N := 7) (g := 1) (i := k) (As := [.int x1]) (rest := []) ⟨hx, hb, hml, hown, hts⟩ (kX0_has l D ca ad A st k hk x1) (cwV 1 hts gX0_constantOf_X0_has rfl rfl rfl (by decide +kernel) ⟨Nat.le_of_ble_eq_true rfl, Nat.le_of_ble_eq_true rfl⟩) hC hP hS (ow_m1 hk) rfl rfl rfl hl.1 rfl (Nat.le_of_ble_eq_true rfl) dX0_constantOf_2 ⟨Nat.zero_le _, Nat.zero_le _⟩) hS (fun H locs hP hS => ?_)
  refine lv_if_eq (tgt := 17) hx hb dX0_constantOf_5 (by decide) (fun c_1 => ?_) (fun c_1 => ?_)
  · refine lv_iconst (v := (-1)) hx hb dX0_constantOf_17 (by decide) ?_
    exact W.iret (v := (-1)) hx hb hr (fun t ht hW => ⟨⟨(-1), st, rfl, ⟨(by simp only [fX0_constantOf, if_pos c_1]), rfl⟩, ow_Bi ht hP⟩, hS.F ht⟩) hS.2.2 dX0_constantOf_18
  · refine lv_aload_n hx hb dX0_constantOf_8 rfl (lv_at hl 0 rfl) ?_
    refine og_get (C := RX0) (T := TX0) (N := 7) (g := 1) (i := k) (v := .ref (ad 2 k)) hx hb hts li_X0_constantOf_X0 hown hC hP (ow_m1 hk) rfl rfl 3 (by decide) (hts _ lk_X0_constantOf_1) rfl rfl dX0_constantOf_9 ?_
    refine lv_iload_n hx hb dX0_constantOf_12 rfl (lv_at hl 1 rfl) ?_
    refine og_iald (g := 2) (i := k) (j := x1.toNatClampNeg) (v := (st.1 (100 + 4 * k) x1.toNatClampNeg)) hx hb hC hP (ow_m2 hk) rfl (has_in c_1) rfl rfl dX0_constantOf_13 ?_
    refine lv_goto (tgt := 18) hx hb dX0_constantOf_14 (by decide) ?_
    exact W.iret (v := (st.1 (100 + 4 * k) x1.toNatClampNeg)) hx hb hr (fun t ht hW => ⟨⟨(st.1 (100 + 4 * k) x1.toNatClampNeg), st, rfl, ⟨(by simp only [fX0_constantOf, if_neg c_1]), rfl⟩, ow_Bi ht hP⟩, hS.F ht⟩) hS.2.2 dX0_constantOf_18

theorem li_X0_codeOf_X0 : ∀ w ∈ u_ws RX0 TX0 7, w ∈ wsX0_codeOf := by decide +kernel
theorem lk_X0_codeOf_1 : (.fieldLink RX0 33 "RecordLabels$Kind" "codes" "[I" : Cond) ∈ wsX0_codeOf := by decide +kernel
def fX0_codeOf (st : ow_St) (k : Nat) (x1 : Int32) : Int32 := (if (fX0_has st k x1) = 0 then (-1) else (st.1 (101 + 4 * k) x1.toNatClampNeg))
set_option maxHeartbeats 4000000 in
set_option maxRecDepth 100000 in
theorem kX0_codeOf (l : Launch) (D : va_G) (ca : Nat → ClassId) (ad : ow_Ad) (A : Nat → Prop) (st : ow_St) (k : Nat) (hk : k < 3) (x1 : Int32) : Met l yX0_codeOf wsX0_codeOf ({ frames := 1, cells := 0, slots := 0, locals := 21 }) (va_Pc [.ref (ad 1 k), .int x1] (ow_W D ca ad A st)) (va_Qi (fun r st' => r = (fX0_codeOf st k x1) ∧ st' = st) (ow_B D ca ad) A) 0 0 A := by
  refine Met.ofW (cc := cX0_codeOf) (maxL := 2) (ret := (some .int)) (by decide) rfl ?_
  intro p e s m args below meth c s₁ B hml hv
  obtain ⟨rfl, hP, hC⟩ := hv
  have hx := B.exec
  have hb := B.bytes
  have hr := B.returns
  have hts := atoms_spec (ws := wsX0_codeOf) B.pre
  have hown : s.vm.findClass RX0 = some m.cls := findClass_of_methodNamed B.named
  have hlocks := B.notSynchronized
  have hS : va_S A s.heap s.heap [] := va_S.rf
  have hl := lv_entry ([.ref (ad 1 k), .int x1]) (n := 2) (Nat.le_of_ble_eq_true rfl)
  rw [lg_entry_eq]
  generalize (lg_sl ([.ref (ad 1 k), .int x1]) ++ List.replicate (2 - (lg_sl ([.ref (ad 1 k), .int x1])).length) Slot.unset).toArray = ls at hl ⊢
  have hl : lv_has ls 2 [(0, .ref (ad 1 k)), (1, .int x1)] := hl
  refine lv_aload_n hx hb dX0_codeOf_0 rfl (lv_at hl 0 rfl) ?_
  refine lv_iload_n hx hb dX0_codeOf_1 rfl (lv_at hl 1 rfl) ?_
  refine og_ciP (og_runV (C := RX0) (T := TX0) (N := 7) (g := 1) (i := k) (As := [.int x1]) (rest := []) ⟨hx, hb, hml, hown, hts⟩ (kX0_has l D ca ad A st k hk x1) (cwV 1 hts gX0_codeOf_X0_has rfl rfl rfl (by decide +kernel) ⟨Nat.le_of_ble_eq_true rfl, Nat.le_of_ble_eq_true rfl⟩) hC hP hS (ow_m1 hk) rfl rfl rfl hl.1 rfl (Nat.le_of_ble_eq_true rfl) dX0_codeOf_2 ⟨Nat.zero_le _, Nat.zero_le _⟩) hS (fun H locs hP hS => ?_)
  refine lv_if_eq (tgt := 17) hx hb dX0_codeOf_5 (by decide) (fun c_1 => ?_) (fun c_1 => ?_)
  · refine lv_iconst (v := (-1)) hx hb dX0_codeOf_17 (by decide) ?_
    exact W.iret (v := (-1)) hx hb hr (fun t ht hW => ⟨⟨(-1), st, rfl, ⟨(by simp only [fX0_codeOf, if_pos c_1]), rfl⟩, ow_Bi ht hP⟩, hS.F ht⟩) hS.2.2 dX0_codeOf_18
  · refine lv_aload_n hx hb dX0_codeOf_8 rfl (lv_at hl 0 rfl) ?_
    refine og_get (C := RX0) (T := TX0) (N := 7) (g := 1) (i := k) (v := .ref (ad 3 k)) hx hb hts li_X0_codeOf_X0 hown hC hP (ow_m1 hk) rfl rfl 4 (by decide) (hts _ lk_X0_codeOf_1) rfl rfl dX0_codeOf_9 ?_
    refine lv_iload_n hx hb dX0_codeOf_12 rfl (lv_at hl 1 rfl) ?_
    refine og_iald (g := 3) (i := k) (j := x1.toNatClampNeg) (v := (st.1 (101 + 4 * k) x1.toNatClampNeg)) hx hb hC hP (ow_m3 hk) rfl (has_in c_1) rfl rfl dX0_codeOf_13 ?_
    refine lv_goto (tgt := 18) hx hb dX0_codeOf_14 (by decide) ?_
    exact W.iret (v := (st.1 (101 + 4 * k) x1.toNatClampNeg)) hx hb hr (fun t ht hW => ⟨⟨(st.1 (101 + 4 * k) x1.toNatClampNeg), st, rfl, ⟨(by simp only [fX0_codeOf, if_neg c_1]), rfl⟩, ow_Bi ht hP⟩, hS.F ht⟩) hS.2.2 dX0_codeOf_18

theorem li_X0_constantNamed_X0 : ∀ w ∈ u_ws RX0 TX0 7, w ∈ wsX0_constantNamed := by decide +kernel
theorem lk_X0_constantNamed_1 : (.fieldLink RX0 26 "RecordLabels$Kind" "size" "I" : Cond) ∈ wsX0_constantNamed := by decide +kernel
theorem lk_X0_constantNamed_2 : (.fieldLink RX0 22 "RecordLabels$Kind" "names" "[J" : Cond) ∈ wsX0_constantNamed := by decide +kernel
def flX0_constantNamed (st : ow_St) (k : Nat) (x1 : Int64) : Nat → Nat → Int32
  | 0, _ => 0
  | n + 1, i => (if (nI (mn k)) ≤ (nI i) then (-1) else (if (lg_cmp (ow_nm k i) x1) = 0 then (nI i) else (flX0_constantNamed st k x1 n (i + 1)  )))
def fX0_constantNamed (st : ow_St) (k : Nat) (x1 : Int64) : Int32 := (flX0_constantNamed st k x1 ((mn k) + 1) 0  )
set_option maxHeartbeats 4000000 in
set_option maxRecDepth 100000 in
theorem kX0_constantNamed (l : Launch) (D : va_G) (ca : Nat → ClassId) (ad : ow_Ad) (A : Nat → Prop) (st : ow_St) (k : Nat) (hk : k < 3) (x1 : Int64) : Met l yX0_constantNamed wsX0_constantNamed ({ frames := 0, cells := 0, slots := 0, locals := 0 }) (va_Pc [.ref (ad 1 k), .long x1] (ow_W D ca ad A st)) (va_Qi (fun r st' => r = (fX0_constantNamed st k x1) ∧ st' = st) (ow_B D ca ad) A) 0 0 A := by
  refine Met.ofW (cc := cX0_constantNamed) (maxL := 4) (ret := (some .int)) (by decide) rfl ?_
  intro p e s m args below meth c s₁ B hml hv
  obtain ⟨rfl, hP, hC⟩ := hv
  have hx := B.exec
  have hb := B.bytes
  have hr := B.returns
  have hts := atoms_spec (ws := wsX0_constantNamed) B.pre
  have hown : s.vm.findClass RX0 = some m.cls := findClass_of_methodNamed B.named
  have hlocks := B.notSynchronized
  have hS : va_S A s.heap s.heap [] := va_S.rf
  have hl := lv_entry ([.ref (ad 1 k), .long x1]) (n := 4) (Nat.le_of_ble_eq_true rfl)
  rw [lg_entry_eq]
  generalize (lg_sl ([.ref (ad 1 k), .long x1]) ++ List.replicate (4 - (lg_sl ([.ref (ad 1 k), .long x1])).length) Slot.unset).toArray = ls at hl ⊢
  have hl : lv_has ls 4 [(0, .ref (ad 1 k)), (1, .long x1)] := hl
  refine lv_iconst (v := 0) hx hb dX0_constantNamed_0 (by decide) ?_
  refine lv_istore_n (lv' := [(3, .int 0), (0, .ref (ad 1 k)), (1, .long x1)]) hx hb dX0_constantNamed_1 rfl hl (by decide) rfl (fun ls hl => ?_)
  have loop : ∀ (n i : Nat) (H : Heap) (locs : List Loc) (ls : Array Slot), i ≤ (mn k) → (mn k) < i + n → flX0_constantNamed st k x1 n i = (fX0_constantNamed st k x1) → va_P D vwCl (ow_ws ad (ow_c ca ad st)) H → va_S A s.heap H locs → lv_has ls 4 [(3, .int (nI i)), (0, .ref (ad 1 k)), (1, .long x1)] → W p l e (headSpec wsX0_constantNamed ({ frames := 0, cells := 0, slots := 0, locals := 0 } : Room)).room s m ([.ref (ad 1 k), .long x1] : List Value).toArray below meth c H locs 0 0 (MQ below (va_Qi (fun r st' => r = (fX0_constantNamed st k x1) ∧ st' = st) (ow_B D ca ad) A) ([.ref (ad 1 k), .long x1] : List Value).toArray s 0 0 A) (F0 m 2 ls []) := by
    intro n
    induction n with
    | zero => intro i H locs ls h1 h2; exact absurd h2 (by omega)
    | succ n ih =>
      intro i H locs ls hle hlt  heq hP hS hl
      have hi31 : i < 2 ^ 31 := Nat.lt_of_le_of_lt hle (ow_mn k)
      refine lv_iload_n hx hb dX0_constantNamed_2 rfl (lv_at hl 0 rfl) ?_
      refine lv_aload_n hx hb dX0_constantNamed_3 rfl (lv_at hl 1 rfl) ?_
      refine og_get (C := RX0) (T := TX0) (N := 7) (g := 1) (i := k) (v := .int (nI (mn k))) hx hb hts li_X0_constantNamed_X0 hown hC hP (ow_m1 hk) rfl rfl 2 (by decide) (hts _ lk_X0_constantNamed_1) rfl rfl dX0_constantNamed_4 ?_
      refine lv_icmp_ge (tgt := 29) hx hb dX0_constantNamed_7 (by decide) (fun c_1 => ?_) (fun c_1 => ?_)
      · refine lv_iconst (v := (-1)) hx hb dX0_constantNamed_29 (by decide) ?_
        exact W.iret (v := (-1)) hx hb hr (fun t ht hW => ⟨⟨(-1), st, rfl, ⟨(by rw [← heq]; simp only [flX0_constantNamed, if_pos c_1]), rfl⟩, ow_Bi ht hP⟩, hS.F ht⟩) hS.2.2 dX0_constantNamed_30
      · refine lv_aload_n hx hb dX0_constantNamed_10 rfl (lv_at hl 1 rfl) ?_
        refine og_get (C := RX0) (T := TX0) (N := 7) (g := 1) (i := k) (v := .ref (ad 12 k)) hx hb hts li_X0_constantNamed_X0 hown hC hP (ow_m1 hk) rfl rfl 1 (by decide) (hts _ lk_X0_constantNamed_2) rfl rfl dX0_constantNamed_11 ?_
        refine lv_iload_n hx hb dX0_constantNamed_14 rfl (lv_at hl 0 rfl) ?_
        refine va_tl (v := .long (ow_nm k i)) hx hb (hC.2.2.2.2.1 k hk) hS (vp_in_nI (ow_lt c_1 hle (ow_mn k)) (ow_mn k)) (by rw [(nI_clamp hi31)]) dX0_constantNamed_15 ?_
        refine lv_lload_n hx hb dX0_constantNamed_16 rfl (lv_at hl 2 rfl) ?_
        refine W.lcmp hx hb dX0_constantNamed_17 ?_
        refine lv_if_ne (tgt := 23) hx hb dX0_constantNamed_18 (by decide) (fun c_2 => ?_) (fun c_2 => ?_)
        · refine lv_iinc (v := (nI (i + 1))) (lv' := [(3, .int (nI (i + 1))), (0, .ref (ad 1 k)), (1, .long x1)]) hx hb dX0_constantNamed_23 hl (k := 0) rfl (nI_1 _) (by decide) rfl (fun ls hl => ?_)
          refine lv_goto (tgt := 2) hx hb dX0_constantNamed_26 (by decide) ?_
          exact ih (i + 1)   _ _ _ (ow_lt c_1 hle (ow_mn k)) (by omega)  (by rw [← heq]; simp only [flX0_constantNamed, if_neg c_1, if_neg c_2]) hP hS (lv_sub hl [0, 1, 2] rfl)
        · refine lv_iload_n hx hb dX0_constantNamed_21 rfl (lv_at hl 0 rfl) ?_
          exact W.iret (v := (nI i)) hx hb hr (fun t ht hW => ⟨⟨(nI i), st, rfl, ⟨(by rw [← heq]; simp only [flX0_constantNamed, if_neg c_1, if_pos c_2]), rfl⟩, ow_Bi ht hP⟩, hS.F ht⟩) hS.2.2 dX0_constantNamed_22
  exact loop ((mn k) + 1) 0   _ _ _ (Nat.zero_le _) (by omega)  (by simp only [fX0_constantNamed]) hP hS (lv_sub hl [0, 1, 2] rfl)

theorem li_X0_nameOf_X0 : ∀ w ∈ u_ws RX0 TX0 7, w ∈ wsX0_nameOf := by decide +kernel
theorem lk_X0_nameOf_1 : (.fieldLink RX0 22 "RecordLabels$Kind" "names" "[J" : Cond) ∈ wsX0_nameOf := by decide +kernel
def fX0_nameOf (st : ow_St) (k : Nat) (x1 : Int32) : Int64 := (if (fX0_has st k x1) = 0 then 0 else (ow_nm k x1.toNatClampNeg))
set_option maxHeartbeats 4000000 in
set_option maxRecDepth 100000 in
theorem kX0_nameOf (l : Launch) (D : va_G) (ca : Nat → ClassId) (ad : ow_Ad) (A : Nat → Prop) (st : ow_St) (k : Nat) (hk : k < 3) (x1 : Int32) : Met l yX0_nameOf wsX0_nameOf ({ frames := 1, cells := 0, slots := 0, locals := 21 }) (va_Pc [.ref (ad 1 k), .int x1] (ow_W D ca ad A st)) (va_Ql (fun r st' => r = (fX0_nameOf st k x1) ∧ st' = st) (ow_B D ca ad) A) 0 0 A := by
  refine Met.ofW (cc := cX0_nameOf) (maxL := 2) (ret := (some .long)) (by decide) rfl ?_
  intro p e s m args below meth c s₁ B hml hv
  obtain ⟨rfl, hP, hC⟩ := hv
  have hx := B.exec
  have hb := B.bytes
  have hr := B.returns
  have hts := atoms_spec (ws := wsX0_nameOf) B.pre
  have hown : s.vm.findClass RX0 = some m.cls := findClass_of_methodNamed B.named
  have hlocks := B.notSynchronized
  have hS : va_S A s.heap s.heap [] := va_S.rf
  have hl := lv_entry ([.ref (ad 1 k), .int x1]) (n := 2) (Nat.le_of_ble_eq_true rfl)
  rw [lg_entry_eq]
  generalize (lg_sl ([.ref (ad 1 k), .int x1]) ++ List.replicate (2 - (lg_sl ([.ref (ad 1 k), .int x1])).length) Slot.unset).toArray = ls at hl ⊢
  have hl : lv_has ls 2 [(0, .ref (ad 1 k)), (1, .int x1)] := hl
  refine lv_aload_n hx hb dX0_nameOf_0 rfl (lv_at hl 0 rfl) ?_
  refine lv_iload_n hx hb dX0_nameOf_1 rfl (lv_at hl 1 rfl) ?_
  refine og_ciP (og_runV (C := RX0) (T := TX0) (N := 7) (g := 1) (i := k) (As := [.int x1]) (rest := []) ⟨hx, hb, hml, hown, hts⟩ (kX0_has l D ca ad A st k hk x1) (cwV 1 hts gX0_nameOf_X0_has rfl rfl rfl (by decide +kernel) ⟨Nat.le_of_ble_eq_true rfl, Nat.le_of_ble_eq_true rfl⟩) hC hP hS (ow_m1 hk) rfl rfl rfl hl.1 rfl (Nat.le_of_ble_eq_true rfl) dX0_nameOf_2 ⟨Nat.zero_le _, Nat.zero_le _⟩) hS (fun H locs hP hS => ?_)
  refine lv_if_eq (tgt := 17) hx hb dX0_nameOf_5 (by decide) (fun c_1 => ?_) (fun c_1 => ?_)
  · refine lv_lconst (v := 0) hx hb dX0_nameOf_17 rfl ?_
    exact W.lret (v := 0) hx hb hr (fun t ht hW => ⟨⟨0, st, rfl, ⟨(by simp only [fX0_nameOf, if_pos c_1]), rfl⟩, ow_Bi ht hP⟩, hS.F ht⟩) hS.2.2 dX0_nameOf_18
  · refine lv_aload_n hx hb dX0_nameOf_8 rfl (lv_at hl 0 rfl) ?_
    refine og_get (C := RX0) (T := TX0) (N := 7) (g := 1) (i := k) (v := .ref (ad 12 k)) hx hb hts li_X0_nameOf_X0 hown hC hP (ow_m1 hk) rfl rfl 1 (by decide) (hts _ lk_X0_nameOf_1) rfl rfl dX0_nameOf_9 ?_
    refine lv_iload_n hx hb dX0_nameOf_12 rfl (lv_at hl 1 rfl) ?_
    refine va_tl (v := .long (ow_nm k x1.toNatClampNeg)) hx hb (hC.2.2.2.2.1 k hk) hS (has_in c_1) rfl dX0_nameOf_13 ?_
    refine lv_goto (tgt := 18) hx hb dX0_nameOf_14 (by decide) ?_
    exact W.lret (v := (ow_nm k x1.toNatClampNeg)) hx hb hr (fun t ht hW => ⟨⟨(ow_nm k x1.toNatClampNeg), st, rfl, ⟨(by simp only [fX0_nameOf, if_neg c_1]), rfl⟩, ow_Bi ht hP⟩, hS.F ht⟩) hS.2.2 dX0_nameOf_18

theorem li_X0_giveCode_X0 : ∀ w ∈ u_ws RX0 TX0 7, w ∈ wsX0_giveCode := by decide +kernel
theorem lk_X0_giveCode_1 : (.fieldLink RX0 29 "RecordLabels$Kind" "constants" "[I" : Cond) ∈ wsX0_giveCode := by decide +kernel
theorem lk_X0_giveCode_2 : (.fieldLink RX0 33 "RecordLabels$Kind" "codes" "[I" : Cond) ∈ wsX0_giveCode := by decide +kernel
def fX0_giveCode (st : ow_St) (k : Nat) (x1 x2 : Int32) : ow_St := (if (fX0_has st k x1) = 0 then st else (if (fX0_has st k x2) = 0 then st else (let st3 := (ow_si st (100 + 4 * k) x2.toNatClampNeg x1); (let st4 := (ow_si st3 (101 + 4 * k) x1.toNatClampNeg x2); st4))))
set_option maxHeartbeats 4000000 in
set_option maxRecDepth 100000 in
theorem kX0_giveCode (l : Launch) (D : va_G) (ca : Nat → ClassId) (ad : ow_Ad) (A : Nat → Prop) (st : ow_St) (k : Nat) (hk : k < 3) (x1 : Int32) (x2 : Int32) : Met l yX0_giveCode wsX0_giveCode ({ frames := 1, cells := 0, slots := 0, locals := 21 }) (va_Pc [.ref (ad 1 k), .int x1, .int x2] (ow_W D ca ad A st)) (va_Qv (fun st' => st' = (fX0_giveCode st k x1 x2)) (ow_B D ca ad) A) 0 0 A := by
  refine Met.ofW (cc := cX0_giveCode) (maxL := 3) (ret := none) (by decide) rfl ?_
  intro p e s m args below meth c s₁ B hml hv
  obtain ⟨rfl, hP, hC⟩ := hv
  have hx := B.exec
  have hb := B.bytes
  have hr := B.returns
  have hts := atoms_spec (ws := wsX0_giveCode) B.pre
  have hown : s.vm.findClass RX0 = some m.cls := findClass_of_methodNamed B.named
  have hlocks := B.notSynchronized
  have hS : va_S A s.heap s.heap [] := va_S.rf
  have hl := lv_entry ([.ref (ad 1 k), .int x1, .int x2]) (n := 3) (Nat.le_of_ble_eq_true rfl)
  rw [lg_entry_eq]
  generalize (lg_sl ([.ref (ad 1 k), .int x1, .int x2]) ++ List.replicate (3 - (lg_sl ([.ref (ad 1 k), .int x1, .int x2])).length) Slot.unset).toArray = ls at hl ⊢
  have hl : lv_has ls 3 [(0, .ref (ad 1 k)), (1, .int x1), (2, .int x2)] := hl
  refine lv_aload_n hx hb dX0_giveCode_0 rfl (lv_at hl 0 rfl) ?_
  refine lv_iload_n hx hb dX0_giveCode_1 rfl (lv_at hl 1 rfl) ?_
  refine og_ciP (og_runV (C := RX0) (T := TX0) (N := 7) (g := 1) (i := k) (As := [.int x1]) (rest := []) ⟨hx, hb, hml, hown, hts⟩ (kX0_has l D ca ad A st k hk x1) (cwV 1 hts gX0_giveCode_X0_has rfl rfl rfl (by decide +kernel) ⟨Nat.le_of_ble_eq_true rfl, Nat.le_of_ble_eq_true rfl⟩) hC hP hS (ow_m1 hk) rfl rfl rfl hl.1 rfl (Nat.le_of_ble_eq_true rfl) dX0_giveCode_2 ⟨Nat.zero_le _, Nat.zero_le _⟩) hS (fun H locs hP hS => ?_)
  refine lv_if_eq (tgt := 30) hx hb dX0_giveCode_5 (by decide) (fun c_1 => ?_) (fun c_1 => ?_)
  · exact W.vret hx hb hr (fun t ht hW => ⟨⟨st, rfl, (by simp only [fX0_giveCode, if_pos c_1]), ow_Bi ht hP⟩, hS.F ht⟩) hS.2.2 dX0_giveCode_30
  · refine lv_aload_n hx hb dX0_giveCode_8 rfl (lv_at hl 0 rfl) ?_
    refine lv_iload_n hx hb dX0_giveCode_9 rfl (lv_at hl 2 rfl) ?_
    refine og_ciP (og_runV (C := RX0) (T := TX0) (N := 7) (g := 1) (i := k) (As := [.int x2]) (rest := []) ⟨hx, hb, hml, hown, hts⟩ (kX0_has l D ca ad A st k hk x2) (cwV 1 hts gX0_giveCode_X0_has rfl rfl rfl (by decide +kernel) ⟨Nat.le_of_ble_eq_true rfl, Nat.le_of_ble_eq_true rfl⟩) hC hP hS (ow_m1 hk) rfl rfl rfl hl.1 rfl (Nat.le_of_ble_eq_true rfl) dX0_giveCode_10 ⟨Nat.zero_le _, Nat.zero_le _⟩) hS (fun H locs hP hS => ?_)
    refine lv_if_eq (tgt := 30) hx hb dX0_giveCode_13 (by decide) (fun c_2 => ?_) (fun c_2 => ?_)
    · exact W.vret hx hb hr (fun t ht hW => ⟨⟨st, rfl, (by simp only [fX0_giveCode, if_neg c_1, if_pos c_2]), ow_Bi ht hP⟩, hS.F ht⟩) hS.2.2 dX0_giveCode_30
    · refine lv_aload_n hx hb dX0_giveCode_16 rfl (lv_at hl 0 rfl) ?_
      refine og_get (C := RX0) (T := TX0) (N := 7) (g := 1) (i := k) (v := .ref (ad 2 k)) hx hb hts li_X0_giveCode_X0 hown hC hP (ow_m1 hk) rfl rfl 3 (by decide) (hts _ lk_X0_giveCode_1) rfl rfl dX0_giveCode_17 ?_
      refine lv_iload_n hx hb dX0_giveCode_20 rfl (lv_at hl 2 rfl) ?_
      refine lv_iload_n hx hb dX0_giveCode_21 rfl (lv_at hl 1 rfl) ?_
      refine og_iast (g := 2) (i := k) (j := x2.toNatClampNeg) (v := x1) hx hb hC hP hS (ow_m2 hk) rfl (has_in c_2) rfl (we_2 st k x2.toNatClampNeg x1) dX0_giveCode_22 (fun H locs hP hS => ?_)
      obtain ⟨st3, e3⟩ : ∃ z, z = (ow_si st (100 + 4 * k) x2.toNatClampNeg x1) := ⟨_, rfl⟩
      rw [← e3] at hP
      refine lv_aload_n hx hb dX0_giveCode_23 rfl (lv_at hl 0 rfl) ?_
      refine og_get (C := RX0) (T := TX0) (N := 7) (g := 1) (i := k) (v := .ref (ad 3 k)) hx hb hts li_X0_giveCode_X0 hown hC hP (ow_m1 hk) rfl rfl 4 (by decide) (hts _ lk_X0_giveCode_2) rfl rfl dX0_giveCode_24 ?_
      refine lv_iload_n hx hb dX0_giveCode_27 rfl (lv_at hl 1 rfl) ?_
      refine lv_iload_n hx hb dX0_giveCode_28 rfl (lv_at hl 2 rfl) ?_
      refine og_iast (g := 3) (i := k) (j := x1.toNatClampNeg) (v := x2) hx hb hC hP hS (ow_m3 hk) rfl (has_in c_1) rfl (we_3 st3 k x1.toNatClampNeg x2) dX0_giveCode_29 (fun H locs hP hS => ?_)
      obtain ⟨st4, e4⟩ : ∃ z, z = (ow_si st3 (101 + 4 * k) x1.toNatClampNeg x2) := ⟨_, rfl⟩
      rw [← e4] at hP
      exact W.vret hx hb hr (fun t ht hW => ⟨⟨st4, rfl, (by subst e4; subst e3; simp only [fX0_giveCode, if_neg c_1, if_neg c_2]), ow_Bi ht hP⟩, hS.F ht⟩) hS.2.2 dX0_giveCode_30

def fX0_exchange (st : ow_St) (k : Nat) (x1 x2 : Int32) : ow_St := (let st1 := (fX0_giveCode st k (fX0_constantOf st k x1) x2); (let st2 := (fX0_giveCode st1 k (fX0_constantOf st k x2) x1); st2))
set_option maxHeartbeats 4000000 in
set_option maxRecDepth 100000 in
theorem kX0_exchange (l : Launch) (D : va_G) (ca : Nat → ClassId) (ad : ow_Ad) (A : Nat → Prop) (st : ow_St) (k : Nat) (hk : k < 3) (x1 : Int32) (x2 : Int32) : Met l yX0_exchange wsX0_exchange ({ frames := 2, cells := 0, slots := 0, locals := 43 }) (va_Pc [.ref (ad 1 k), .int x1, .int x2] (ow_W D ca ad A st)) (va_Qv (fun st' => st' = (fX0_exchange st k x1 x2)) (ow_B D ca ad) A) 0 0 A := by
  refine Met.ofW (cc := cX0_exchange) (maxL := 5) (ret := none) (by decide) rfl ?_
  intro p e s m args below meth c s₁ B hml hv
  obtain ⟨rfl, hP, hC⟩ := hv
  have hx := B.exec
  have hb := B.bytes
  have hr := B.returns
  have hts := atoms_spec (ws := wsX0_exchange) B.pre
  have hown : s.vm.findClass RX0 = some m.cls := findClass_of_methodNamed B.named
  have hlocks := B.notSynchronized
  have hS : va_S A s.heap s.heap [] := va_S.rf
  have hl := lv_entry ([.ref (ad 1 k), .int x1, .int x2]) (n := 5) (Nat.le_of_ble_eq_true rfl)
  rw [lg_entry_eq]
  generalize (lg_sl ([.ref (ad 1 k), .int x1, .int x2]) ++ List.replicate (5 - (lg_sl ([.ref (ad 1 k), .int x1, .int x2])).length) Slot.unset).toArray = ls at hl ⊢
  have hl : lv_has ls 5 [(0, .ref (ad 1 k)), (1, .int x1), (2, .int x2)] := hl
  refine lv_aload_n hx hb dX0_exchange_0 rfl (lv_at hl 0 rfl) ?_
  refine lv_iload_n hx hb dX0_exchange_1 rfl (lv_at hl 1 rfl) ?_
  refine og_ciP (og_runV (C := RX0) (T := TX0) (N := 7) (g := 1) (i := k) (As := [.int x1]) (rest := []) ⟨hx, hb, hml, hown, hts⟩ (kX0_constantOf l D ca ad A st k hk x1) (cwV 1 hts gX0_exchange_X0_constantOf rfl rfl rfl (by decide +kernel) ⟨Nat.le_of_ble_eq_true rfl, Nat.le_of_ble_eq_true rfl⟩) hC hP hS (ow_m1 hk) rfl rfl rfl hl.1 rfl (Nat.le_of_ble_eq_true rfl) dX0_exchange_2 ⟨Nat.zero_le _, Nat.zero_le _⟩) hS (fun H locs hP hS => ?_)
  refine lv_istore_n (lv' := [(3, .int (fX0_constantOf st k x1)), (0, .ref (ad 1 k)), (1, .int x1), (2, .int x2)]) hx hb dX0_exchange_5 rfl hl (by decide) rfl (fun ls hl => ?_)
  refine lv_aload_n hx hb dX0_exchange_6 rfl (lv_at hl 1 rfl) ?_
  refine lv_iload_n hx hb dX0_exchange_7 rfl (lv_at hl 3 rfl) ?_
  refine og_ciP (og_runV (C := RX0) (T := TX0) (N := 7) (g := 1) (i := k) (As := [.int x2]) (rest := []) ⟨hx, hb, hml, hown, hts⟩ (kX0_constantOf l D ca ad A st k hk x2) (cwV 1 hts gX0_exchange_X0_constantOf rfl rfl rfl (by decide +kernel) ⟨Nat.le_of_ble_eq_true rfl, Nat.le_of_ble_eq_true rfl⟩) hC hP hS (ow_m1 hk) rfl rfl rfl hl.1 rfl (Nat.le_of_ble_eq_true rfl) dX0_exchange_8 ⟨Nat.zero_le _, Nat.zero_le _⟩) hS (fun H locs hP hS => ?_)
  refine lv_istore (lv' := [(4, .int (fX0_constantOf st k x2)), (3, .int (fX0_constantOf st k x1)), (0, .ref (ad 1 k)), (1, .int x1), (2, .int x2)]) hx hb dX0_exchange_11 hl (by decide) rfl (fun ls hl => ?_)
  refine lv_aload_n hx hb dX0_exchange_13 rfl (lv_at hl 2 rfl) ?_
  refine lv_iload_n hx hb dX0_exchange_14 rfl (lv_at hl 1 rfl) ?_
  refine lv_iload_n hx hb dX0_exchange_15 rfl (lv_at hl 4 rfl) ?_
  refine og_cvW (og_runV (C := RX0) (T := TX0) (N := 7) (g := 1) (i := k) (As := [.int (fX0_constantOf st k x1), .int x2]) (rest := []) ⟨hx, hb, hml, hown, hts⟩ (kX0_giveCode l D ca ad A st k hk (fX0_constantOf st k x1) x2) (cwV 2 hts gX0_exchange_X0_giveCode rfl rfl rfl (by decide +kernel) ⟨Nat.le_of_ble_eq_true rfl, Nat.le_of_ble_eq_true rfl⟩) hC hP hS (ow_m1 hk) rfl rfl rfl hl.1 rfl (Nat.le_of_ble_eq_true rfl) dX0_exchange_16 ⟨Nat.zero_le _, Nat.zero_le _⟩) hS (fun H locs hP hS => ?_)
  obtain ⟨st1, e1⟩ : ∃ z, z = (fX0_giveCode st k (fX0_constantOf st k x1) x2) := ⟨_, rfl⟩
  rw [← e1] at hP
  refine lv_aload_n hx hb dX0_exchange_19 rfl (lv_at hl 2 rfl) ?_
  refine lv_iload hx hb dX0_exchange_20 (lv_at hl 0 rfl) ?_
  refine lv_iload_n hx hb dX0_exchange_22 rfl (lv_at hl 3 rfl) ?_
  refine og_cvW (og_runV (C := RX0) (T := TX0) (N := 7) (g := 1) (i := k) (As := [.int (fX0_constantOf st k x2), .int x1]) (rest := []) ⟨hx, hb, hml, hown, hts⟩ (kX0_giveCode l D ca ad A st1 k hk (fX0_constantOf st k x2) x1) (cwV 2 hts gX0_exchange_X0_giveCode rfl rfl rfl (by decide +kernel) ⟨Nat.le_of_ble_eq_true rfl, Nat.le_of_ble_eq_true rfl⟩) hC hP hS (ow_m1 hk) rfl rfl rfl hl.1 rfl (Nat.le_of_ble_eq_true rfl) dX0_exchange_23 ⟨Nat.zero_le _, Nat.zero_le _⟩) hS (fun H locs hP hS => ?_)
  obtain ⟨st2, e2⟩ : ∃ z, z = (fX0_giveCode st1 k (fX0_constantOf st k x2) x1) := ⟨_, rfl⟩
  rw [← e2] at hP
  exact W.vret hx hb hr (fun t ht hW => ⟨⟨st2, rfl, (by subst e2; subst e1; simp only [fX0_exchange]), ow_Bi ht hP⟩, hS.F ht⟩) hS.2.2 dX0_exchange_26

theorem li_X0_startForRule_X0 : ∀ w ∈ u_ws RX0 TX0 7, w ∈ wsX0_startForRule := by decide +kernel
theorem lk_X0_startForRule_1 : (.fieldLink RX0 9 "RecordLabels$Kind" "start" "I" : Cond) ∈ wsX0_startForRule := by decide +kernel
theorem lk_X0_startForRule_2 : (.fieldLink RX0 15 "RecordLabels$Kind" "toldToFail" "Z" : Cond) ∈ wsX0_startForRule := by decide +kernel
def fX0_startForRule (st : ow_St) (k : Nat) : Int32 × ow_St := (if (st.1 1 k) = 2 then ((-9), st) else (if (st.1 1 k) = 0 then (if (st.1 2 k) = 0 then (let st4 := (ow_si st 1 k 1); (1, st4)) else (let st5 := (ow_si st 1 k 2); ((-8), st5))) else (let st6 := (ow_si st 1 k 1); (1, st6))))
set_option maxHeartbeats 4000000 in
set_option maxRecDepth 100000 in
theorem kX0_startForRule (l : Launch) (D : va_G) (ca : Nat → ClassId) (ad : ow_Ad) (A : Nat → Prop) (st : ow_St) (k : Nat) (hk : k < 3)  : Met l yX0_startForRule wsX0_startForRule ({ frames := 0, cells := 0, slots := 0, locals := 0 }) (va_Pc [.ref (ad 1 k)] (ow_W D ca ad A st)) (va_Qi (fun r st' => (r, st') = (fX0_startForRule st k)) (ow_B D ca ad) A) 0 0 A := by
  refine Met.ofW (cc := cX0_startForRule) (maxL := 1) (ret := (some .int)) (by decide) rfl ?_
  intro p e s m args below meth c s₁ B hml hv
  obtain ⟨rfl, hP, hC⟩ := hv
  have hx := B.exec
  have hb := B.bytes
  have hr := B.returns
  have hts := atoms_spec (ws := wsX0_startForRule) B.pre
  have hown : s.vm.findClass RX0 = some m.cls := findClass_of_methodNamed B.named
  have hlocks := B.notSynchronized
  have hS : va_S A s.heap s.heap [] := va_S.rf
  have hl := lv_entry ([.ref (ad 1 k)]) (n := 1) (Nat.le_of_ble_eq_true rfl)
  rw [lg_entry_eq]
  generalize (lg_sl ([.ref (ad 1 k)]) ++ List.replicate (1 - (lg_sl ([.ref (ad 1 k)])).length) Slot.unset).toArray = ls at hl ⊢
  have hl : lv_has ls 1 [(0, .ref (ad 1 k))] := hl
  refine lv_aload_n hx hb dX0_startForRule_0 rfl (lv_at hl 0 rfl) ?_
  refine og_get (C := RX0) (T := TX0) (N := 7) (g := 1) (i := k) (v := .int (st.1 1 k)) hx hb hts li_X0_startForRule_X0 hown hC hP (ow_m1 hk) rfl rfl 5 (by decide) (hts _ lk_X0_startForRule_1) rfl rfl dX0_startForRule_1 ?_
  refine lv_iconst (v := 2) hx hb dX0_startForRule_4 (by decide) ?_
  refine lv_icmp_ne (tgt := 11) hx hb dX0_startForRule_5 (by decide) (fun c_1 => ?_) (fun c_1 => ?_)
  · refine lv_aload_n hx hb dX0_startForRule_11 rfl (lv_at hl 0 rfl) ?_
    refine og_get (C := RX0) (T := TX0) (N := 7) (g := 1) (i := k) (v := .int (st.1 1 k)) hx hb hts li_X0_startForRule_X0 hown hC hP (ow_m1 hk) rfl rfl 5 (by decide) (hts _ lk_X0_startForRule_1) rfl rfl dX0_startForRule_12 ?_
    refine lv_if_ne (tgt := 33) hx hb dX0_startForRule_15 (by decide) (fun c_2 => ?_) (fun c_2 => ?_)
    · refine lv_aload_n hx hb dX0_startForRule_33 rfl (lv_at hl 0 rfl) ?_
      refine lv_iconst (v := 1) hx hb dX0_startForRule_34 (by decide) ?_
      refine og_put (C := RX0) (T := TX0) (N := 7) (g := 1) (i := k) (v := .int 1) (ty := .int) hx hb hts li_X0_startForRule_X0 tyX0 tyX0_ok nmX0 hown hC hP hS (ow_m1 hk) rfl rfl 5 (by decide) (hts _ lk_X0_startForRule_1) rfl rfl (by decide +kernel) rfl rfl (Nat.le_of_ble_eq_true rfl) (we_1_1 st k 1) dX0_startForRule_35 (fun H locs hP hS => ?_)
      obtain ⟨st6, e6⟩ : ∃ z, z = (ow_si st 1 k 1) := ⟨_, rfl⟩
      rw [← e6] at hP
      refine lv_iconst (v := 1) hx hb dX0_startForRule_38 (by decide) ?_
      exact W.iret (v := 1) hx hb hr (fun t ht hW => ⟨⟨1, st6, rfl, (by subst e6; simp only [fX0_startForRule, if_neg c_1, if_neg c_2]), ow_Bi ht hP⟩, hS.F ht⟩) hS.2.2 dX0_startForRule_39
    · refine lv_aload_n hx hb dX0_startForRule_18 rfl (lv_at hl 0 rfl) ?_
      refine og_get (C := RX0) (T := TX0) (N := 7) (g := 1) (i := k) (v := .int (st.1 2 k)) hx hb hts li_X0_startForRule_X0 hown hC hP (ow_m1 hk) rfl rfl 6 (by decide) (hts _ lk_X0_startForRule_2) rfl rfl dX0_startForRule_19 ?_
      refine lv_if_eq (tgt := 33) hx hb dX0_startForRule_22 (by decide) (fun c_3 => ?_) (fun c_3 => ?_)
      · refine lv_aload_n hx hb dX0_startForRule_33 rfl (lv_at hl 0 rfl) ?_
        refine lv_iconst (v := 1) hx hb dX0_startForRule_34 (by decide) ?_
        refine og_put (C := RX0) (T := TX0) (N := 7) (g := 1) (i := k) (v := .int 1) (ty := .int) hx hb hts li_X0_startForRule_X0 tyX0 tyX0_ok nmX0 hown hC hP hS (ow_m1 hk) rfl rfl 5 (by decide) (hts _ lk_X0_startForRule_1) rfl rfl (by decide +kernel) rfl rfl (Nat.le_of_ble_eq_true rfl) (we_1_1 st k 1) dX0_startForRule_35 (fun H locs hP hS => ?_)
        obtain ⟨st4, e4⟩ : ∃ z, z = (ow_si st 1 k 1) := ⟨_, rfl⟩
        rw [← e4] at hP
        refine lv_iconst (v := 1) hx hb dX0_startForRule_38 (by decide) ?_
        exact W.iret (v := 1) hx hb hr (fun t ht hW => ⟨⟨1, st4, rfl, (by subst e4; simp only [fX0_startForRule, if_neg c_1, if_pos c_2, if_pos c_3]), ow_Bi ht hP⟩, hS.F ht⟩) hS.2.2 dX0_startForRule_39
      · refine lv_aload_n hx hb dX0_startForRule_25 rfl (lv_at hl 0 rfl) ?_
        refine lv_iconst (v := 2) hx hb dX0_startForRule_26 (by decide) ?_
        refine og_put (C := RX0) (T := TX0) (N := 7) (g := 1) (i := k) (v := .int 2) (ty := .int) hx hb hts li_X0_startForRule_X0 tyX0 tyX0_ok nmX0 hown hC hP hS (ow_m1 hk) rfl rfl 5 (by decide) (hts _ lk_X0_startForRule_1) rfl rfl (by decide +kernel) rfl rfl (Nat.le_of_ble_eq_true rfl) (we_1_1 st k 2) dX0_startForRule_27 (fun H locs hP hS => ?_)
        obtain ⟨st5, e5⟩ : ∃ z, z = (ow_si st 1 k 2) := ⟨_, rfl⟩
        rw [← e5] at hP
        refine lv_bipush (v := (-8)) hx hb dX0_startForRule_30 (by decide) ?_
        exact W.iret (v := (-8)) hx hb hr (fun t ht hW => ⟨⟨(-8), st5, rfl, (by subst e5; simp only [fX0_startForRule, if_neg c_1, if_pos c_2, if_neg c_3]), ow_Bi ht hP⟩, hS.F ht⟩) hS.2.2 dX0_startForRule_32
  · refine lv_bipush (v := (-9)) hx hb dX0_startForRule_8 (by decide) ?_
    exact W.iret (v := (-9)) hx hb hr (fun t ht hW => ⟨⟨(-9), st, rfl, (by simp only [fX0_startForRule, if_pos c_1]), ow_Bi ht hP⟩, hS.F ht⟩) hS.2.2 dX0_startForRule_10

theorem li_X1_size_X1 : ∀ w ∈ u_ws RX1 TX1 2, w ∈ wsX1_size := by decide +kernel
theorem lk_X1_size_1 : (.fieldLink RX1 7 "RecordLabels$LabelSet" "members" "I" : Cond) ∈ wsX1_size := by decide +kernel
def fX1_size (st : ow_St) (i : Nat) : Int32 := (fJ6_bitCount_0f7a4 st (st.1 3 i))
set_option maxHeartbeats 4000000 in
set_option maxRecDepth 100000 in
theorem kX1_size (l : Launch) (D : va_G) (ca : Nat → ClassId) (ad : ow_Ad) (A : Nat → Prop) (st : ow_St) (i : Nat) (hi : i < 10) : Met l yX1_size wsX1_size ({ frames := 1, cells := 0, slots := 0, locals := 20 }) (va_Pc [.ref (ad 5 i)] (ow_W D ca ad A st)) (va_Qi (fun r st' => r = (fX1_size st i) ∧ st' = st) (ow_B D ca ad) A) 0 0 A := by
  refine Met.ofW (cc := cX1_size) (maxL := 1) (ret := (some .int)) (by decide) rfl ?_
  intro p e s m args below meth c s₁ B hml hv
  obtain ⟨rfl, hP, hC⟩ := hv
  have hx := B.exec
  have hb := B.bytes
  have hr := B.returns
  have hts := atoms_spec (ws := wsX1_size) B.pre
  have hown : s.vm.findClass RX1 = some m.cls := findClass_of_methodNamed B.named
  have hlocks := B.notSynchronized
  have hS : va_S A s.heap s.heap [] := va_S.rf
  have hl := lv_entry ([.ref (ad 5 i)]) (n := 1) (Nat.le_of_ble_eq_true rfl)
  rw [lg_entry_eq]
  generalize (lg_sl ([.ref (ad 5 i)]) ++ List.replicate (1 - (lg_sl ([.ref (ad 5 i)])).length) Slot.unset).toArray = ls at hl ⊢
  have hl : lv_has ls 1 [(0, .ref (ad 5 i))] := hl
  refine lv_aload_n hx hb dX1_size_0 rfl (lv_at hl 0 rfl) ?_
  refine og_get (C := RX1) (T := TX1) (N := 2) (g := 5) (i := i) (v := .int (st.1 3 i)) hx hb hts li_X1_size_X1 hown hC hP (ow_m5 hi) rfl rfl 1 (by decide) (hts _ lk_X1_size_1) rfl rfl dX1_size_1 ?_
  refine og_ciP (og_runS (As := [.int (st.1 3 i)]) (rest := []) ⟨hx, hb, hml, hown, hts⟩ (kJ6_bitCount_0f7a4 l D ca ad A st (st.1 3 i)) (va_cwS 1 hts gX1_size_J6_bitCount_0f7a4 rfl rfl rfl (by decide +kernel) ⟨Nat.le_of_ble_eq_true rfl, Nat.le_of_ble_eq_true rfl⟩) hC hP hS rfl hl.1 rfl (Nat.le_of_ble_eq_true rfl) dX1_size_4 ⟨Nat.zero_le _, Nat.zero_le _⟩) hS (fun H locs hP hS => ?_)
  exact W.iret (v := (fJ6_bitCount_0f7a4 st (st.1 3 i))) hx hb hr (fun t ht hW => ⟨⟨(fJ6_bitCount_0f7a4 st (st.1 3 i)), st, rfl, ⟨(by simp only [fX1_size]), rfl⟩, ow_Bi ht hP⟩, hS.F ht⟩) hS.2.2 dX1_size_7

theorem li_X1_holds_X1 : ∀ w ∈ u_ws RX1 TX1 2, w ∈ wsX1_holds := by decide +kernel
theorem lk_X1_holds_1 : (.fieldLink RX1 13 "RecordLabels$LabelSet" "kind" "LRecordLabels$Kind;" : Cond) ∈ wsX1_holds := by decide +kernel
theorem ln_X1_holds_2 : (.methodLinkNest RX1 23 yX0_has "RecordLabels" : Cond) ∈ ow_nest := by decide +kernel
theorem lk_X1_holds_3 : (.initialized RX0 : Cond) ∈ wsX1_holds := by decide +kernel
theorem lk_X1_holds_4 : (.instanceMethod yX0_has : Cond) ∈ wsX1_holds := by decide +kernel
theorem lk_X1_holds_5 : (.selects RX0 yX0_has yX0_has : Cond) ∈ wsX1_holds := by decide +kernel
theorem lk_X1_holds_6 : (.fieldLink RX1 7 "RecordLabels$LabelSet" "members" "I" : Cond) ∈ wsX1_holds := by decide +kernel
def fX1_holds (st : ow_St) (i : Nat) (x1 : Int32) : Int32 := (if (fX0_has st (st.2.2 (i + 1)) x1) = 0 then 0 else (if (((st.1 3 i) >>> (x1 &&& 31)) &&& 1) = 1 then 1 else 0))
set_option maxHeartbeats 4000000 in
set_option maxRecDepth 100000 in
theorem kX1_holds (l : Launch) (D : va_G) (ca : Nat → ClassId) (ad : ow_Ad) (A : Nat → Prop) (st : ow_St) (i : Nat) (hi : i < 10) (hki : st.2.2 (i + 1) < 3) (x1 : Int32) : Met l yX1_holds wsX1_holds ({ frames := 1, cells := 0, slots := 0, locals := 21 }) (va_Pc [.ref (ad 5 i), .int x1] (ow_W D ca ad A st)) (va_Qi (fun r st' => r = (fX1_holds st i x1) ∧ st' = st) (ow_B D ca ad) A) 0 0 A := by
  refine Met.ofW (cc := cX1_holds) (maxL := 2) (ret := (some .boolean)) (by decide) rfl ?_
  intro p e s m args below meth c s₁ B hml hv
  obtain ⟨rfl, hP, hC⟩ := hv
  have hx := B.exec
  have hb := B.bytes
  have hr := B.returns
  have hts := atoms_spec (ws := wsX1_holds) B.pre
  have hown : s.vm.findClass RX1 = some m.cls := findClass_of_methodNamed B.named
  have hlocks := B.notSynchronized
  have hS : va_S A s.heap s.heap [] := va_S.rf
  have hl := lv_entry ([.ref (ad 5 i), .int x1]) (n := 2) (Nat.le_of_ble_eq_true rfl)
  rw [lg_entry_eq]
  generalize (lg_sl ([.ref (ad 5 i), .int x1]) ++ List.replicate (2 - (lg_sl ([.ref (ad 5 i), .int x1])).length) Slot.unset).toArray = ls at hl ⊢
  have hl : lv_has ls 2 [(0, .ref (ad 5 i)), (1, .int x1)] := hl
  refine lv_aload_n hx hb dX1_holds_0 rfl (lv_at hl 0 rfl) ?_
  refine og_get (C := RX1) (T := TX1) (N := 2) (g := 5) (i := i) (v := .ref (ad 1 (st.2.2 (i + 1)))) hx hb hts li_X1_holds_X1 hown hC hP (ow_m5 hi) rfl rfl 0 (by decide) (hts _ lk_X1_holds_1) rfl rfl dX1_holds_1 ?_
  refine lv_iload_n hx hb dX1_holds_4 rfl (lv_at hl 1 rfl) ?_
  refine og_ciP (og_runVN (C := RX0) (T := TX0) (N := 7) (g := 1) (i := (st.2.2 (i + 1))) (As := [.int x1]) (rest := []) ⟨hx, hb, hml, hown, hts⟩ (kX0_has l D ca ad A st (st.2.2 (i + 1)) hki x1) ⟨va_cnB 1 hts gX1_holds_X0_has_n23 rfl rfl rfl (hC.2.2.1 _ ln_X1_holds_2) (hts _ lk_X1_holds_3) (by decide +kernel) ⟨Nat.le_of_ble_eq_true rfl, Nat.le_of_ble_eq_true rfl⟩, (hts _ lk_X1_holds_4), (hts _ lk_X1_holds_5)⟩ hC hP hS (ow_m1 hki) rfl rfl rfl hl.1 rfl (Nat.le_of_ble_eq_true rfl) dX1_holds_5 ⟨Nat.zero_le _, Nat.zero_le _⟩) hS (fun H locs hP hS => ?_)
  refine lv_if_eq (tgt := 27) hx hb dX1_holds_8 (by decide) (fun c_1 => ?_) (fun c_1 => ?_)
  · refine lv_iconst (v := 0) hx hb dX1_holds_27 (by decide) ?_
    exact W.zret (v := 0) hx hb hr rfl (fun t ht hW => ⟨⟨0, st, rfl, ⟨(by simp only [fX1_holds, if_pos c_1]), rfl⟩, ow_Bi ht hP⟩, hS.F ht⟩) hS.2.2 dX1_holds_28
  · refine lv_aload_n hx hb dX1_holds_11 rfl (lv_at hl 0 rfl) ?_
    refine og_get (C := RX1) (T := TX1) (N := 2) (g := 5) (i := i) (v := .int (st.1 3 i)) hx hb hts li_X1_holds_X1 hown hC hP (ow_m5 hi) rfl rfl 1 (by decide) (hts _ lk_X1_holds_6) rfl rfl dX1_holds_12 ?_
    refine lv_iload_n hx hb dX1_holds_15 rfl (lv_at hl 1 rfl) ?_
    refine lv_ishr hx hb dX1_holds_16 ?_
    refine lv_iconst (v := 1) hx hb dX1_holds_17 (by decide) ?_
    refine lv_iand hx hb dX1_holds_18 ?_
    refine lv_iconst (v := 1) hx hb dX1_holds_19 (by decide) ?_
    refine lv_icmp_ne (tgt := 27) hx hb dX1_holds_20 (by decide) (fun c_2 => ?_) (fun c_2 => ?_)
    · refine lv_iconst (v := 0) hx hb dX1_holds_27 (by decide) ?_
      exact W.zret (v := 0) hx hb hr rfl (fun t ht hW => ⟨⟨0, st, rfl, ⟨(by simp only [fX1_holds, if_neg c_1, if_neg c_2]), rfl⟩, ow_Bi ht hP⟩, hS.F ht⟩) hS.2.2 dX1_holds_28
    · refine lv_iconst (v := 1) hx hb dX1_holds_23 (by decide) ?_
      refine lv_goto (tgt := 28) hx hb dX1_holds_24 (by decide) ?_
      exact W.zret (v := 1) hx hb hr rfl (fun t ht hW => ⟨⟨1, st, rfl, ⟨(by simp only [fX1_holds, if_neg c_1, if_pos c_2]), rfl⟩, ow_Bi ht hP⟩, hS.F ht⟩) hS.2.2 dX1_holds_28

theorem lk_X1_become_0 : (.fieldLink RX1 13 "RecordLabels$LabelSet" "kind" "LRecordLabels$Kind;" : Cond) ∈ wsX1_become := by decide +kernel
theorem li_X1_become_X1 : ∀ w ∈ u_ws RX1 TX1 2, w ∈ wsX1_become := by decide +kernel
theorem lk_X1_become_2 : (.fieldLink RX1 7 "RecordLabels$LabelSet" "members" "I" : Cond) ∈ wsX1_become := by decide +kernel
def fX1_become (st : ow_St) (i k : Nat) (x2 : Int32) : ow_St := (let st1 := (ow_sr st (i + 1) k); (let st2 := (ow_si st1 3 i x2); st2))
set_option maxHeartbeats 4000000 in
set_option maxRecDepth 100000 in
theorem kX1_become (l : Launch) (D : va_G) (ca : Nat → ClassId) (ad : ow_Ad) (A : Nat → Prop) (st : ow_St) (i : Nat) (hi : i < 10) (k : Nat) (x2 : Int32) : Met l yX1_become wsX1_become ({ frames := 0, cells := 0, slots := 0, locals := 0 }) (va_Pc [.ref (ad 5 i), .ref (ad 1 k), .int x2] (ow_W D ca ad A st)) (va_Qv (fun st' => st' = (fX1_become st i k x2)) (ow_B D ca ad) A) 0 0 A := by
  refine Met.ofW (cc := cX1_become) (maxL := 3) (ret := none) (by decide) rfl ?_
  intro p e s m args below meth c s₁ B hml hv
  obtain ⟨rfl, hP, hC⟩ := hv
  have hx := B.exec
  have hb := B.bytes
  have hr := B.returns
  have hts := atoms_spec (ws := wsX1_become) B.pre
  have hown : s.vm.findClass RX1 = some m.cls := findClass_of_methodNamed B.named
  have hlocks := B.notSynchronized
  have hS : va_S A s.heap s.heap [] := va_S.rf
  have hl := lv_entry ([.ref (ad 5 i), .ref (ad 1 k), .int x2]) (n := 3) (Nat.le_of_ble_eq_true rfl)
  rw [lg_entry_eq]
  generalize (lg_sl ([.ref (ad 5 i), .ref (ad 1 k), .int x2]) ++ List.replicate (3 - (lg_sl ([.ref (ad 5 i), .ref (ad 1 k), .int x2])).length) Slot.unset).toArray = ls at hl ⊢
  have hl : lv_has ls 3 [(0, .ref (ad 5 i)), (1, .ref (ad 1 k)), (2, .int x2)] := hl
  refine lv_aload_n hx hb dX1_become_0 rfl (lv_at hl 0 rfl) ?_
  refine lv_aload_n hx hb dX1_become_1 rfl (lv_at hl 1 rfl) ?_
  refine og_put (C := RX1) (T := TX1) (N := 2) (g := 5) (i := i) (v := .ref (ad 1 k)) (ty := .object "RecordLabels$Kind") hx hb hts li_X1_become_X1 tyX1 tyX1_ok nmX1 hown hC hP hS (ow_m5 hi) rfl rfl 0 (by decide) (hts _ lk_X1_become_0) rfl rfl (by decide +kernel) rfl rfl (Nat.le_of_ble_eq_true rfl) (we_5_k st i k) dX1_become_2 (fun H locs hP hS => ?_)
  obtain ⟨st1, e1⟩ : ∃ z, z = (ow_sr st (i + 1) k) := ⟨_, rfl⟩
  rw [← e1] at hP
  refine lv_aload_n hx hb dX1_become_5 rfl (lv_at hl 0 rfl) ?_
  refine lv_iload_n hx hb dX1_become_6 rfl (lv_at hl 2 rfl) ?_
  refine og_put (C := RX1) (T := TX1) (N := 2) (g := 5) (i := i) (v := .int x2) (ty := .int) hx hb hts li_X1_become_X1 tyX1 tyX1_ok nmX1 hown hC hP hS (ow_m5 hi) rfl rfl 1 (by decide) (hts _ lk_X1_become_2) rfl rfl (by decide +kernel) rfl rfl (Nat.le_of_ble_eq_true rfl) (we_5_m st1 i x2) dX1_become_7 (fun H locs hP hS => ?_)
  obtain ⟨st2, e2⟩ : ∃ z, z = (ow_si st1 3 i x2) := ⟨_, rfl⟩
  rw [← e2] at hP
  exact W.vret hx hb hr (fun t ht hW => ⟨⟨st2, rfl, (by subst e2; subst e1; simp only [fX1_become]), ow_Bi ht hP⟩, hS.F ht⟩) hS.2.2 dX1_become_10

theorem li_X2_hasRecord_0_X2 : ∀ w ∈ u_ws RX2 TX2 5, w ∈ wsX2_hasRecord := by decide +kernel
theorem lk_X2_hasRecord_0_1 : (.fieldLink RX2 9 "RecordLabels$Table" "size" "I" : Cond) ∈ wsX2_hasRecord := by decide +kernel
def fX2_hasRecord_0 (st : ow_St) (x1 : Int32) : Int32 := (if x1 < 0 then 0 else (if (st.1 4 0) ≤ x1 then 0 else 1))
set_option maxHeartbeats 4000000 in
set_option maxRecDepth 100000 in
theorem kX2_hasRecord_0 (l : Launch) (D : va_G) (ca : Nat → ClassId) (ad : ow_Ad) (A : Nat → Prop) (st : ow_St) (x1 : Int32) : Met l yX2_hasRecord wsX2_hasRecord ({ frames := 0, cells := 0, slots := 0, locals := 0 }) (va_Pc [.ref (ad 6 0), .int x1] (ow_W D ca ad A st)) (va_Qi (fun r st' => r = (fX2_hasRecord_0 st x1) ∧ st' = st) (ow_B D ca ad) A) 0 0 A := by
  refine Met.ofW (cc := cX2_hasRecord) (maxL := 2) (ret := (some .boolean)) (by decide) rfl ?_
  intro p e s m args below meth c s₁ B hml hv
  obtain ⟨rfl, hP, hC⟩ := hv
  have hx := B.exec
  have hb := B.bytes
  have hr := B.returns
  have hts := atoms_spec (ws := wsX2_hasRecord) B.pre
  have hown : s.vm.findClass RX2 = some m.cls := findClass_of_methodNamed B.named
  have hlocks := B.notSynchronized
  have hS : va_S A s.heap s.heap [] := va_S.rf
  have hl := lv_entry ([.ref (ad 6 0), .int x1]) (n := 2) (Nat.le_of_ble_eq_true rfl)
  rw [lg_entry_eq]
  generalize (lg_sl ([.ref (ad 6 0), .int x1]) ++ List.replicate (2 - (lg_sl ([.ref (ad 6 0), .int x1])).length) Slot.unset).toArray = ls at hl ⊢
  have hl : lv_has ls 2 [(0, .ref (ad 6 0)), (1, .int x1)] := hl
  refine lv_iload_n hx hb dX2_hasRecord_0 rfl (lv_at hl 1 rfl) ?_
  refine lv_if_lt (tgt := 16) hx hb dX2_hasRecord_1 (by decide) (fun c_1 => ?_) (fun c_1 => ?_)
  · refine lv_iconst (v := 0) hx hb dX2_hasRecord_16 (by decide) ?_
    exact W.zret (v := 0) hx hb hr rfl (fun t ht hW => ⟨⟨0, st, rfl, ⟨(by simp only [fX2_hasRecord_0, if_pos c_1]), rfl⟩, ow_Bi ht hP⟩, hS.F ht⟩) hS.2.2 dX2_hasRecord_17
  · refine lv_iload_n hx hb dX2_hasRecord_4 rfl (lv_at hl 1 rfl) ?_
    refine lv_aload_n hx hb dX2_hasRecord_5 rfl (lv_at hl 0 rfl) ?_
    refine og_get (C := RX2) (T := TX2) (N := 5) (g := 6) (i := 0) (v := .int (st.1 4 0)) hx hb hts li_X2_hasRecord_0_X2 hown hC hP (ow_q6_0) rfl rfl 4 (by decide) (hts _ lk_X2_hasRecord_0_1) rfl rfl dX2_hasRecord_6 ?_
    refine lv_icmp_ge (tgt := 16) hx hb dX2_hasRecord_9 (by decide) (fun c_2 => ?_) (fun c_2 => ?_)
    · refine lv_iconst (v := 0) hx hb dX2_hasRecord_16 (by decide) ?_
      exact W.zret (v := 0) hx hb hr rfl (fun t ht hW => ⟨⟨0, st, rfl, ⟨(by simp only [fX2_hasRecord_0, if_neg c_1, if_pos c_2]), rfl⟩, ow_Bi ht hP⟩, hS.F ht⟩) hS.2.2 dX2_hasRecord_17
    · refine lv_iconst (v := 1) hx hb dX2_hasRecord_12 (by decide) ?_
      refine lv_goto (tgt := 17) hx hb dX2_hasRecord_13 (by decide) ?_
      exact W.zret (v := 1) hx hb hr rfl (fun t ht hW => ⟨⟨1, st, rfl, ⟨(by simp only [fX2_hasRecord_0, if_neg c_1, if_neg c_2]), rfl⟩, ow_Bi ht hP⟩, hS.F ht⟩) hS.2.2 dX2_hasRecord_17

theorem li_X2_hasItem_0_X2 : ∀ w ∈ u_ws RX2 TX2 5, w ∈ wsX2_hasItem := by decide +kernel
theorem lk_X2_hasItem_0_1 : (.fieldLink RX2 19 "RecordLabels$Table" "items" "I" : Cond) ∈ wsX2_hasItem := by decide +kernel
def fX2_hasItem_0 (st : ow_St) (x1 : Int32) : Int32 := (if x1 < 0 then 0 else (if 3 ≤ x1 then 0 else 1))
set_option maxHeartbeats 4000000 in
set_option maxRecDepth 100000 in
theorem kX2_hasItem_0 (l : Launch) (D : va_G) (ca : Nat → ClassId) (ad : ow_Ad) (A : Nat → Prop) (st : ow_St) (x1 : Int32) : Met l yX2_hasItem wsX2_hasItem ({ frames := 0, cells := 0, slots := 0, locals := 0 }) (va_Pc [.ref (ad 6 0), .int x1] (ow_W D ca ad A st)) (va_Qi (fun r st' => r = (fX2_hasItem_0 st x1) ∧ st' = st) (ow_B D ca ad) A) 0 0 A := by
  refine Met.ofW (cc := cX2_hasItem) (maxL := 2) (ret := (some .boolean)) (by decide) rfl ?_
  intro p e s m args below meth c s₁ B hml hv
  obtain ⟨rfl, hP, hC⟩ := hv
  have hx := B.exec
  have hb := B.bytes
  have hr := B.returns
  have hts := atoms_spec (ws := wsX2_hasItem) B.pre
  have hown : s.vm.findClass RX2 = some m.cls := findClass_of_methodNamed B.named
  have hlocks := B.notSynchronized
  have hS : va_S A s.heap s.heap [] := va_S.rf
  have hl := lv_entry ([.ref (ad 6 0), .int x1]) (n := 2) (Nat.le_of_ble_eq_true rfl)
  rw [lg_entry_eq]
  generalize (lg_sl ([.ref (ad 6 0), .int x1]) ++ List.replicate (2 - (lg_sl ([.ref (ad 6 0), .int x1])).length) Slot.unset).toArray = ls at hl ⊢
  have hl : lv_has ls 2 [(0, .ref (ad 6 0)), (1, .int x1)] := hl
  refine lv_iload_n hx hb dX2_hasItem_0 rfl (lv_at hl 1 rfl) ?_
  refine lv_if_lt (tgt := 16) hx hb dX2_hasItem_1 (by decide) (fun c_1 => ?_) (fun c_1 => ?_)
  · refine lv_iconst (v := 0) hx hb dX2_hasItem_16 (by decide) ?_
    exact W.zret (v := 0) hx hb hr rfl (fun t ht hW => ⟨⟨0, st, rfl, ⟨(by simp only [fX2_hasItem_0, if_pos c_1]), rfl⟩, ow_Bi ht hP⟩, hS.F ht⟩) hS.2.2 dX2_hasItem_17
  · refine lv_iload_n hx hb dX2_hasItem_4 rfl (lv_at hl 1 rfl) ?_
    refine lv_aload_n hx hb dX2_hasItem_5 rfl (lv_at hl 0 rfl) ?_
    refine og_get (C := RX2) (T := TX2) (N := 5) (g := 6) (i := 0) (v := .int 3) hx hb hts li_X2_hasItem_0_X2 hown hC hP (ow_q6_0) rfl rfl 1 (by decide) (hts _ lk_X2_hasItem_0_1) rfl rfl dX2_hasItem_6 ?_
    refine lv_icmp_ge (tgt := 16) hx hb dX2_hasItem_9 (by decide) (fun c_2 => ?_) (fun c_2 => ?_)
    · refine lv_iconst (v := 0) hx hb dX2_hasItem_16 (by decide) ?_
      exact W.zret (v := 0) hx hb hr rfl (fun t ht hW => ⟨⟨0, st, rfl, ⟨(by simp only [fX2_hasItem_0, if_neg c_1, if_pos c_2]), rfl⟩, ow_Bi ht hP⟩, hS.F ht⟩) hS.2.2 dX2_hasItem_17
    · refine lv_iconst (v := 1) hx hb dX2_hasItem_12 (by decide) ?_
      refine lv_goto (tgt := 17) hx hb dX2_hasItem_13 (by decide) ?_
      exact W.zret (v := 1) hx hb hr rfl (fun t ht hW => ⟨⟨1, st, rfl, ⟨(by simp only [fX2_hasItem_0, if_neg c_1, if_neg c_2]), rfl⟩, ow_Bi ht hP⟩, hS.F ht⟩) hS.2.2 dX2_hasItem_17

theorem li_X2_hasRecord_1_X2 : ∀ w ∈ u_ws RX2 TX2 5, w ∈ wsX2_hasRecord := by decide +kernel
theorem lk_X2_hasRecord_1_1 : (.fieldLink RX2 9 "RecordLabels$Table" "size" "I" : Cond) ∈ wsX2_hasRecord := by decide +kernel
def fX2_hasRecord_1 (st : ow_St) (x1 : Int32) : Int32 := (if x1 < 0 then 0 else (if (st.1 4 1) ≤ x1 then 0 else 1))
set_option maxHeartbeats 4000000 in
set_option maxRecDepth 100000 in
theorem kX2_hasRecord_1 (l : Launch) (D : va_G) (ca : Nat → ClassId) (ad : ow_Ad) (A : Nat → Prop) (st : ow_St) (x1 : Int32) : Met l yX2_hasRecord wsX2_hasRecord ({ frames := 0, cells := 0, slots := 0, locals := 0 }) (va_Pc [.ref (ad 6 1), .int x1] (ow_W D ca ad A st)) (va_Qi (fun r st' => r = (fX2_hasRecord_1 st x1) ∧ st' = st) (ow_B D ca ad) A) 0 0 A := by
  refine Met.ofW (cc := cX2_hasRecord) (maxL := 2) (ret := (some .boolean)) (by decide) rfl ?_
  intro p e s m args below meth c s₁ B hml hv
  obtain ⟨rfl, hP, hC⟩ := hv
  have hx := B.exec
  have hb := B.bytes
  have hr := B.returns
  have hts := atoms_spec (ws := wsX2_hasRecord) B.pre
  have hown : s.vm.findClass RX2 = some m.cls := findClass_of_methodNamed B.named
  have hlocks := B.notSynchronized
  have hS : va_S A s.heap s.heap [] := va_S.rf
  have hl := lv_entry ([.ref (ad 6 1), .int x1]) (n := 2) (Nat.le_of_ble_eq_true rfl)
  rw [lg_entry_eq]
  generalize (lg_sl ([.ref (ad 6 1), .int x1]) ++ List.replicate (2 - (lg_sl ([.ref (ad 6 1), .int x1])).length) Slot.unset).toArray = ls at hl ⊢
  have hl : lv_has ls 2 [(0, .ref (ad 6 1)), (1, .int x1)] := hl
  refine lv_iload_n hx hb dX2_hasRecord_0 rfl (lv_at hl 1 rfl) ?_
  refine lv_if_lt (tgt := 16) hx hb dX2_hasRecord_1 (by decide) (fun c_1 => ?_) (fun c_1 => ?_)
  · refine lv_iconst (v := 0) hx hb dX2_hasRecord_16 (by decide) ?_
    exact W.zret (v := 0) hx hb hr rfl (fun t ht hW => ⟨⟨0, st, rfl, ⟨(by simp only [fX2_hasRecord_1, if_pos c_1]), rfl⟩, ow_Bi ht hP⟩, hS.F ht⟩) hS.2.2 dX2_hasRecord_17
  · refine lv_iload_n hx hb dX2_hasRecord_4 rfl (lv_at hl 1 rfl) ?_
    refine lv_aload_n hx hb dX2_hasRecord_5 rfl (lv_at hl 0 rfl) ?_
    refine og_get (C := RX2) (T := TX2) (N := 5) (g := 6) (i := 1) (v := .int (st.1 4 1)) hx hb hts li_X2_hasRecord_1_X2 hown hC hP (ow_q6_1) rfl rfl 4 (by decide) (hts _ lk_X2_hasRecord_1_1) rfl rfl dX2_hasRecord_6 ?_
    refine lv_icmp_ge (tgt := 16) hx hb dX2_hasRecord_9 (by decide) (fun c_2 => ?_) (fun c_2 => ?_)
    · refine lv_iconst (v := 0) hx hb dX2_hasRecord_16 (by decide) ?_
      exact W.zret (v := 0) hx hb hr rfl (fun t ht hW => ⟨⟨0, st, rfl, ⟨(by simp only [fX2_hasRecord_1, if_neg c_1, if_pos c_2]), rfl⟩, ow_Bi ht hP⟩, hS.F ht⟩) hS.2.2 dX2_hasRecord_17
    · refine lv_iconst (v := 1) hx hb dX2_hasRecord_12 (by decide) ?_
      refine lv_goto (tgt := 17) hx hb dX2_hasRecord_13 (by decide) ?_
      exact W.zret (v := 1) hx hb hr rfl (fun t ht hW => ⟨⟨1, st, rfl, ⟨(by simp only [fX2_hasRecord_1, if_neg c_1, if_neg c_2]), rfl⟩, ow_Bi ht hP⟩, hS.F ht⟩) hS.2.2 dX2_hasRecord_17

theorem li_X2_hasItem_1_X2 : ∀ w ∈ u_ws RX2 TX2 5, w ∈ wsX2_hasItem := by decide +kernel
theorem lk_X2_hasItem_1_1 : (.fieldLink RX2 19 "RecordLabels$Table" "items" "I" : Cond) ∈ wsX2_hasItem := by decide +kernel
def fX2_hasItem_1 (st : ow_St) (x1 : Int32) : Int32 := (if x1 < 0 then 0 else (if 4 ≤ x1 then 0 else 1))
set_option maxHeartbeats 4000000 in
set_option maxRecDepth 100000 in
theorem kX2_hasItem_1 (l : Launch) (D : va_G) (ca : Nat → ClassId) (ad : ow_Ad) (A : Nat → Prop) (st : ow_St) (x1 : Int32) : Met l yX2_hasItem wsX2_hasItem ({ frames := 0, cells := 0, slots := 0, locals := 0 }) (va_Pc [.ref (ad 6 1), .int x1] (ow_W D ca ad A st)) (va_Qi (fun r st' => r = (fX2_hasItem_1 st x1) ∧ st' = st) (ow_B D ca ad) A) 0 0 A := by
  refine Met.ofW (cc := cX2_hasItem) (maxL := 2) (ret := (some .boolean)) (by decide) rfl ?_
  intro p e s m args below meth c s₁ B hml hv
  obtain ⟨rfl, hP, hC⟩ := hv
  have hx := B.exec
  have hb := B.bytes
  have hr := B.returns
  have hts := atoms_spec (ws := wsX2_hasItem) B.pre
  have hown : s.vm.findClass RX2 = some m.cls := findClass_of_methodNamed B.named
  have hlocks := B.notSynchronized
  have hS : va_S A s.heap s.heap [] := va_S.rf
  have hl := lv_entry ([.ref (ad 6 1), .int x1]) (n := 2) (Nat.le_of_ble_eq_true rfl)
  rw [lg_entry_eq]
  generalize (lg_sl ([.ref (ad 6 1), .int x1]) ++ List.replicate (2 - (lg_sl ([.ref (ad 6 1), .int x1])).length) Slot.unset).toArray = ls at hl ⊢
  have hl : lv_has ls 2 [(0, .ref (ad 6 1)), (1, .int x1)] := hl
  refine lv_iload_n hx hb dX2_hasItem_0 rfl (lv_at hl 1 rfl) ?_
  refine lv_if_lt (tgt := 16) hx hb dX2_hasItem_1 (by decide) (fun c_1 => ?_) (fun c_1 => ?_)
  · refine lv_iconst (v := 0) hx hb dX2_hasItem_16 (by decide) ?_
    exact W.zret (v := 0) hx hb hr rfl (fun t ht hW => ⟨⟨0, st, rfl, ⟨(by simp only [fX2_hasItem_1, if_pos c_1]), rfl⟩, ow_Bi ht hP⟩, hS.F ht⟩) hS.2.2 dX2_hasItem_17
  · refine lv_iload_n hx hb dX2_hasItem_4 rfl (lv_at hl 1 rfl) ?_
    refine lv_aload_n hx hb dX2_hasItem_5 rfl (lv_at hl 0 rfl) ?_
    refine og_get (C := RX2) (T := TX2) (N := 5) (g := 6) (i := 1) (v := .int 4) hx hb hts li_X2_hasItem_1_X2 hown hC hP (ow_q6_1) rfl rfl 1 (by decide) (hts _ lk_X2_hasItem_1_1) rfl rfl dX2_hasItem_6 ?_
    refine lv_icmp_ge (tgt := 16) hx hb dX2_hasItem_9 (by decide) (fun c_2 => ?_) (fun c_2 => ?_)
    · refine lv_iconst (v := 0) hx hb dX2_hasItem_16 (by decide) ?_
      exact W.zret (v := 0) hx hb hr rfl (fun t ht hW => ⟨⟨0, st, rfl, ⟨(by simp only [fX2_hasItem_1, if_neg c_1, if_pos c_2]), rfl⟩, ow_Bi ht hP⟩, hS.F ht⟩) hS.2.2 dX2_hasItem_17
    · refine lv_iconst (v := 1) hx hb dX2_hasItem_12 (by decide) ?_
      refine lv_goto (tgt := 17) hx hb dX2_hasItem_13 (by decide) ?_
      exact W.zret (v := 1) hx hb hr rfl (fun t ht hW => ⟨⟨1, st, rfl, ⟨(by simp only [fX2_hasItem_1, if_neg c_1, if_neg c_2]), rfl⟩, ow_Bi ht hP⟩, hS.F ht⟩) hS.2.2 dX2_hasItem_17
