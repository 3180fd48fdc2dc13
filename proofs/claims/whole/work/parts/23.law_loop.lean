theorem and31 (v : Int32) : ∃ j, j < 32 ∧ v &&& 31 = nI j := by
  have e : v = nI v.toBitVec.toNat := by
    apply Int32.toBitVec_inj.1
    show v.toBitVec = BitVec.ofNat 32 v.toBitVec.toNat
    simp
  refine ⟨v.toBitVec.toNat &&& 31, ?_, ?_⟩
  · exact Nat.lt_of_le_of_lt Nat.and_le_right (by decide)
  · have h := nx_and v.toBitVec.toNat 31
    rw [← e] at h
    exact h
set_option maxHeartbeats 4000000 in
set_option maxRecDepth 100000 in
theorem law_loop {p : Program} {l : Launch} {e : Env} {s : State} {m : MethodId} {below : List Frame} {meth : Method} {c : Code} {D : va_G} {ca : Nat → ClassId} {ad : ow_Ad} {b L : Nat} {xs : Nat → Int32} {Q : State → Prop} {A : Nat → Prop} (hx : p.tables.exec = Jvm.exec) (hb : c.code = cL_law) (hml : c.maxLocals = 4) (hown : s.vm.findClass RL = some m.cls) (hts : ∀ w ∈ wsL_law, w.before #[Value.ref b] s = true) (hC : ow_C D ca ad A s) (hbA : ¬ A b) (hX : va_X b L xs s s.heap) (hbl : b < s.heap.size) (hL : L ≤ 3072) (E : ∀ (H : Heap) (locs : List Loc) (ls : Array Slot), va_S A s.heap H locs → W p l e room_1 s m #[Value.ref b] below meth c H locs 600000 7302250 Q (F0 m 996 ls [])) :
    ∀ (n i : Nat) (st : ow_St) (H : Heap) (locs : List Loc) (ls : Array Slot), i ≤ L → L < i + n → RLs st → va_P D vwCl (ow_ws ad (ow_c ca ad st)) H → va_S A s.heap H locs → lv_has ls 4 [(0, .ref b), (1, .ref (ad 0 0)), (2, .ref (ad 10 0)), (3, .int (nI i))] → W p l e room_1 s m #[Value.ref b] below meth c H locs 600000 7302250 Q (F0 m 18 ls []) := by
  intro n
  induction n with
  | zero => intro i st H locs ls h1 h2; exact absurd h2 (by omega)
  | succ n ih =>
    intro i st H locs ls hiL hn h hP hS hl
    have K : ∀ (hi : i + 6 ≤ L) (st : ow_St) (H : Heap) (locs : List Loc) (ls : Array Slot), RLs st → va_P D vwCl (ow_ws ad (ow_c ca ad st)) H → va_S A s.heap H locs → lv_has ls 4 [(0, .ref b), (1, .ref (ad 0 0)), (2, .ref (ad 10 0)), (3, .int (nI i))] → W p l e room_1 s m #[Value.ref b] below meth c H locs 600000 7302250 Q (F0 m 990 ls []) := by
      intro hi st H locs ls h hP hS hl
      refine lv_iinc (v := (nI (i + 6))) (lv' := [(3, .int (nI (i + 6))), (0, .ref b), (1, .ref (ad 0 0)), (2, .ref (ad 10 0))]) hx hb dL_law_990 hl (k := 3) rfl (show nI i + nI 6 = nI (i + 6) from nI_add i 6) (by decide) rfl (fun ls hl => ?_)
      refine lv_goto (tgt := 18) hx hb dL_law_993 (by decide) ?_
      exact ih (i + 6) st _ _ _ (by omega) (by omega) h hP hS (lv_sub hl [1, 2, 3, 0] rfl)
    refine lv_iload_n hx hb dL_law_18 rfl (lv_at hl 3 rfl) ?_
    refine lv_aload_n hx hb dL_law_19 rfl (lv_at hl 0 rfl) ?_
    refine va_slen hx hb hX hbl hbA hS dL_law_20 ?_
    refine lv_bipush (v := 6) hx hb dL_law_21 (by decide) ?_
    refine lv_isub hx hb dL_law_23 ?_
    refine lv_icmp_gt (tgt := 996) hx hb dL_law_24 (by decide) (fun c_1 => E _ _ _ hS) (fun c_1 => ?_)
    have hi : i + 6 ≤ L := by
      have e1 : (nI L - nI 6).toInt = (L : Int) - (6 : Nat) := pk_sub_toInt (by omega) (by decide)
      have e2 : (nI i).toInt = (i : Int) := nI_toInt (by omega)
      have c2 : ¬ nI L - nI 6 < nI i := c_1
      rw [Int32.lt_iff_toInt_lt, e1, e2] at c2
      omega
    refine lv_aload_n hx hb dL_law_27 rfl (lv_at hl 0 rfl) ?_
    refine lv_iload_n hx hb dL_law_28 rfl (lv_at hl 3 rfl) ?_
    refine va_sld hx hb hX hbl hbA hS (vp_in_nI (show i < L by omega) (by omega)) dL_law_29 ?_
    refine lv_bipush (v := 31) hx hb dL_law_30 (by decide) ?_
    refine lv_iand hx hb dL_law_32 ?_
    obtain ⟨j, hj, ej⟩ := and31 (xs (nI i).toNatClampNeg)
    rw [ej]
    rcases (show j = 0 ∨ j = 1 ∨ j = 2 ∨ j = 3 ∨ j = 4 ∨ j = 5 ∨ j = 6 ∨ j = 7 ∨ j = 8 ∨ j = 9 ∨ j = 10 ∨ j = 11 ∨ j = 12 ∨ j = 13 ∨ j = 14 ∨ j = 15 ∨ j = 16 ∨ j = 17 ∨ j = 18 ∨ j = 19 ∨ j = 20 ∨ 21 ≤ j by omega) with rfl | rfl | rfl | rfl | rfl | rfl | rfl | rfl | rfl | rfl | rfl | rfl | rfl | rfl | rfl | rfl | rfl | rfl | rfl | rfl | rfl | hj2
    · refine lv_tableIn (off := 99) (tgt := 132) hx hb dL_law_33 (by decide) (by decide) (by decide) (by decide) ?_
      exact lawc_0 hx hb hml hown hts hC hbA hX hbl hL hi h hP hS hl (K hi)
    · refine lv_tableIn (off := 162) (tgt := 195) hx hb dL_law_33 (by decide) (by decide) (by decide) (by decide) ?_
      exact lawc_1 hx hb hml hown hts hC hbA hX hbl hL hi h hP hS hl (K hi)
    · refine lv_tableIn (off := 196) (tgt := 229) hx hb dL_law_33 (by decide) (by decide) (by decide) (by decide) ?_
      exact lawc_2 hx hb hml hown hts hC hbA hX hbl hL hi h hP hS hl (K hi)
    · refine lv_tableIn (off := 239) (tgt := 272) hx hb dL_law_33 (by decide) (by decide) (by decide) (by decide) ?_
      exact lawc_3 hx hb hml hown hts hC hbA hX hbl hL hi h hP hS hl (K hi)
    · refine lv_tableIn (off := 312) (tgt := 345) hx hb dL_law_33 (by decide) (by decide) (by decide) (by decide) ?_
      exact lawc_4 hx hb hml hown hts hC hbA hX hbl hL hi h hP hS hl (K hi)
    · refine lv_tableIn (off := 326) (tgt := 359) hx hb dL_law_33 (by decide) (by decide) (by decide) (by decide) ?_
      exact lawc_5 hx hb hml hown hts hC hbA hX hbl hL hi h hP hS hl (K hi)
    · refine lv_tableIn (off := 375) (tgt := 408) hx hb dL_law_33 (by decide) (by decide) (by decide) (by decide) ?_
      exact lawc_6 hx hb hml hown hts hC hbA hX hbl hL hi h hP hS hl (K hi)
    · refine lv_tableIn (off := 398) (tgt := 431) hx hb dL_law_33 (by decide) (by decide) (by decide) (by decide) ?_
      exact lawc_7 hx hb hml hown hts hC hbA hX hbl hL hi h hP hS hl (K hi)
    · refine lv_tableIn (off := 431) (tgt := 464) hx hb dL_law_33 (by decide) (by decide) (by decide) (by decide) ?_
      exact lawc_8 hx hb hml hown hts hC hbA hX hbl hL hi h hP hS hl (K hi)
    · refine lv_tableIn (off := 490) (tgt := 523) hx hb dL_law_33 (by decide) (by decide) (by decide) (by decide) ?_
      exact lawc_9 hx hb hml hown hts hC hbA hX hbl hL hi h hP hS hl (K hi)
    · refine lv_tableIn (off := 543) (tgt := 576) hx hb dL_law_33 (by decide) (by decide) (by decide) (by decide) ?_
      exact lawc_10 hx hb hml hown hts hC hbA hX hbl hL hi h hP hS hl (K hi)
    · refine lv_tableIn (off := 576) (tgt := 609) hx hb dL_law_33 (by decide) (by decide) (by decide) (by decide) ?_
      exact lawc_11 hx hb hml hown hts hC hbA hX hbl hL hi h hP hS hl (K hi)
    · refine lv_tableIn (off := 609) (tgt := 642) hx hb dL_law_33 (by decide) (by decide) (by decide) (by decide) ?_
      by_cases f0 : xs (i + 1) = 0
      · exact lawc_12_0 hx hb hml hown hts hC hbA hX hbl hL hi h f0 hP hS hl (K hi)
      · by_cases f1 : xs (i + 1) = 1
        · exact lawc_12_1 hx hb hml hown hts hC hbA hX hbl hL hi h f1 hP hS hl (K hi)
        · exact lawc_12_n hx hb hml hown hts hC hbA hX hbl hL hi h f0 f1 hP hS hl (K hi)
    · refine lv_tableIn (off := 672) (tgt := 705) hx hb dL_law_33 (by decide) (by decide) (by decide) (by decide) ?_
      by_cases f0 : xs (i + 1) = 0
      · exact lawc_13_0 hx hb hml hown hts hC hbA hX hbl hL hi h f0 hP hS hl (K hi)
      · by_cases f1 : xs (i + 1) = 1
        · exact lawc_13_1 hx hb hml hown hts hC hbA hX hbl hL hi h f1 hP hS hl (K hi)
        · exact lawc_13_n hx hb hml hown hts hC hbA hX hbl hL hi h f0 f1 hP hS hl (K hi)
    · refine lv_tableIn (off := 725) (tgt := 758) hx hb dL_law_33 (by decide) (by decide) (by decide) (by decide) ?_
      by_cases f0 : xs (i + 1) = 0
      · exact lawc_14_0 hx hb hml hown hts hC hbA hX hbl hL hi h f0 hP hS hl (K hi)
      · by_cases f1 : xs (i + 1) = 1
        · exact lawc_14_1 hx hb hml hown hts hC hbA hX hbl hL hi h f1 hP hS hl (K hi)
        · exact lawc_14_n hx hb hml hown hts hC hbA hX hbl hL hi h f0 f1 hP hS hl (K hi)
    · refine lv_tableIn (off := 768) (tgt := 801) hx hb dL_law_33 (by decide) (by decide) (by decide) (by decide) ?_
      by_cases f0 : xs (i + 1) = 0
      · exact lawc_15_0 hx hb hml hown hts hC hbA hX hbl hL hi h f0 hP hS hl (K hi)
      · by_cases f1 : xs (i + 1) = 1
        · exact lawc_15_1 hx hb hml hown hts hC hbA hX hbl hL hi h f1 hP hS hl (K hi)
        · exact lawc_15_n hx hb hml hown hts hC hbA hX hbl hL hi h f0 f1 hP hS hl (K hi)
    · refine lv_tableIn (off := 801) (tgt := 834) hx hb dL_law_33 (by decide) (by decide) (by decide) (by decide) ?_
      rcases h.2.2.2.2.2.2.2.2.2 with ⟨p1, p2⟩ | ⟨p1, p2, p3, p4, p5⟩ | ⟨p1, p2, p3, p4⟩
      · exact lawc_16_n hx hb hml hown hts hC hbA hX hbl hL hi h p1 p2 hP hS hl (K hi)
      · exact lawc_16_0 hx hb hml hown hts hC hbA hX hbl hL hi h p1 p2 p4 p5 hP hS hl (K hi)
      · exact lawc_16_1 hx hb hml hown hts hC hbA hX hbl hL hi h p1 p2 p4 hP hS hl (K hi)
    · refine lv_tableIn (off := 824) (tgt := 857) hx hb dL_law_33 (by decide) (by decide) (by decide) (by decide) ?_
      by_cases f0 : xs (i + 1) = 0
      · exact lawc_17_0 hx hb hml hown hts hC hbA hX hbl hL hi h f0 hP hS hl (K hi)
      · by_cases f1 : xs (i + 1) = 1
        · exact lawc_17_1 hx hb hml hown hts hC hbA hX hbl hL hi h f1 hP hS hl (K hi)
        · exact lawc_17_n hx hb hml hown hts hC hbA hX hbl hL hi h f0 f1 hP hS hl (K hi)
    · refine lv_tableIn (off := 887) (tgt := 920) hx hb dL_law_33 (by decide) (by decide) (by decide) (by decide) ?_
      exact lawc_18 hx hb hml hown hts hC hbA hX hbl hL hi h hP hS hl (K hi)
    · refine lv_tableIn (off := 910) (tgt := 943) hx hb dL_law_33 (by decide) (by decide) (by decide) (by decide) ?_
      by_cases f0 : xs (i + 1) = 0
      · exact lawc_19_0 hx hb hml hown hts hC hbA hX hbl hL hi h f0 hP hS hl (K hi)
      · by_cases f1 : xs (i + 1) = 1
        · exact lawc_19_1 hx hb hml hown hts hC hbA hX hbl hL hi h f1 hP hS hl (K hi)
        · exact lawc_19_n hx hb hml hown hts hC hbA hX hbl hL hi h f0 f1 hP hS hl (K hi)
    · refine lv_tableIn (off := 934) (tgt := 967) hx hb dL_law_33 (by decide) (by decide) (by decide) (by decide) ?_
      exact lawc_20 hx hb hml hown hts hC hbA hX hbl hL hi h hP hS hl (K hi)
    · refine lv_tableOut (tgt := 990) hx hb dL_law_33 (Or.inr ?_) (by decide) ?_
      · rw [nI_toInt (by omega)]
        omega
      · exact K hi _ _ _ _ h hP hS hl
