set_option maxHeartbeats 4000000 in
set_option maxRecDepth 100000 in
theorem lawc_13_n {p : Program} {l : Launch} {e : Env} {s : State} {m : MethodId} {below : List Frame} {meth : Method} {c : Code} {D : va_G} {ca : Nat → ClassId} {ad : ow_Ad} {b L : Nat} {xs : Nat → Int32} {Q : State → Prop} {A : Nat → Prop} (hx : p.tables.exec = Jvm.exec) (hb : c.code = cL_law) (hml : c.maxLocals = 4) (hown : s.vm.findClass RL = some m.cls) (hts : ∀ w ∈ wsL_law, w.before #[Value.ref b] s = true) (hC : ow_C D ca ad A s) (hbA : ¬ A b) (hX : va_X b L xs s s.heap) (hbl : b < s.heap.size) (hL : L ≤ 3072) {st : ow_St} {i : Nat} {H : Heap} {locs : List Loc} {ls : Array Slot} (hi : i + 6 ≤ L) (h : RLs st) (hn0 : ¬ xs (i + 1) = 0) (hn1 : ¬ xs (i + 1) = 1) (hP : va_P D vwCl (ow_ws ad (ow_c ca ad st)) H) (hS : va_S A s.heap H locs) (hl : lv_has ls 4 [(0, .ref b), (1, .ref (ad 0 0)), (2, .ref (ad 10 0)), (3, .int (nI i))]) (K : ∀ (st : ow_St) (H : Heap) (locs : List Loc) (ls : Array Slot), RLs st → va_P D vwCl (ow_ws ad (ow_c ca ad st)) H → va_S A s.heap H locs → lv_has ls 4 [(0, .ref b), (1, .ref (ad 0 0)), (2, .ref (ad 10 0)), (3, .int (nI i))] → W p l e room_1 s m #[Value.ref b] below meth c H locs 600000 7302250 Q (F0 m 990 ls [])) : W p l e room_1 s m #[Value.ref b] below meth c H locs 600000 7302250 Q (F0 m 705 ls []) := by
  refine lv_aload_n hx hb dL_law_705 rfl (lv_at hl 1 rfl) ?_
  refine lv_aload_n hx hb dL_law_706 rfl (lv_at hl 0 rfl) ?_
  refine lv_iload_n hx hb dL_law_707 rfl (lv_at hl 3 rfl) ?_
  refine lv_iconst (v := 1) hx hb dL_law_708 (by decide) ?_
  refine lv_iadd hx hb dL_law_709 ?_
  rw [show nI i + (1 : Int32) = nI (i + 1) from nI_add i 1]
  refine og_sld (j := i + 1) (v := (xs (i + 1))) hx hb hX hbl hbA hS (by omega) (by omega) rfl dL_law_710 ?_
  refine lv_aload_n hx hb dL_law_711 rfl (lv_at hl 0 rfl) ?_
  refine lv_iload_n hx hb dL_law_712 rfl (lv_at hl 3 rfl) ?_
  refine lv_iconst (v := 2) hx hb dL_law_713 (by decide) ?_
  refine lv_iadd hx hb dL_law_714 ?_
  rw [show nI i + (2 : Int32) = nI (i + 2) from nI_add i 2]
  refine og_sld (j := i + 2) (v := (xs (i + 2))) hx hb hX hbl hbA hS (by omega) (by omega) rfl dL_law_715 ?_
  refine lv_aload_n hx hb dL_law_716 rfl (lv_at hl 0 rfl) ?_
  refine lv_iload_n hx hb dL_law_717 rfl (lv_at hl 3 rfl) ?_
  refine lv_iconst (v := 3) hx hb dL_law_718 (by decide) ?_
  refine lv_iadd hx hb dL_law_719 ?_
  rw [show nI i + (3 : Int32) = nI (i + 3) from nI_add i 3]
  refine og_sld (j := i + 3) (v := (xs (i + 3))) hx hb hX hbl hbA hS (by omega) (by omega) rfl dL_law_720 ?_
  refine lv_aload_n hx hb dL_law_721 rfl (lv_at hl 0 rfl) ?_
  refine lv_iload_n hx hb dL_law_722 rfl (lv_at hl 3 rfl) ?_
  refine lv_iconst (v := 4) hx hb dL_law_723 (by decide) ?_
  refine lv_iadd hx hb dL_law_724 ?_
  rw [show nI i + (4 : Int32) = nI (i + 4) from nI_add i 4]
  refine og_sld (j := i + 4) (v := (xs (i + 4))) hx hb hX hbl hbA hS (by omega) (by omega) rfl dL_law_725 ?_
  refine og_ciW (og_runV (C := RX3) (T := TX3) (N := 14) (g := 0) (i := 0) (As := [.int (xs (i + 1)), .int (xs (i + 2)), .int (xs (i + 3)), .int (xs (i + 4))]) (rest := []) ⟨hx, hb, hml, hown, hts⟩ (kX3_lay l D ca ad A st (xs (i + 1)) (xs (i + 2)) (xs (i + 3)) (xs (i + 4)) (RL_sz h (by decide)) (RL_sz h (by decide))) (cwV 4 hts gL_law_X3_lay rfl rfl rfl (by decide +kernel) ⟨Nat.le_of_ble_eq_true rfl, Nat.le_of_ble_eq_true rfl⟩) hC hP hS (ow_q0_0) rfl rfl rfl hl.1 rfl (Nat.le_of_ble_eq_true rfl) dL_law_726 ⟨Nat.le_refl _, Nat.le_refl _⟩) hS (fun H locs hP hS => ?_)
  refine lv_aload_n hx hb dL_law_729 rfl (lv_at hl 2 rfl) ?_
  refine lv_aload_n hx hb dL_law_730 rfl (lv_at hl 0 rfl) ?_
  refine lv_iload_n hx hb dL_law_731 rfl (lv_at hl 3 rfl) ?_
  refine lv_iconst (v := 1) hx hb dL_law_732 (by decide) ?_
  refine lv_iadd hx hb dL_law_733 ?_
  rw [show nI i + (1 : Int32) = nI (i + 1) from nI_add i 1]
  refine og_sld (j := i + 1) (v := (xs (i + 1))) hx hb hX hbl hbA hS (by omega) (by omega) rfl dL_law_734 ?_
  refine lv_aload_n hx hb dL_law_735 rfl (lv_at hl 0 rfl) ?_
  refine lv_iload_n hx hb dL_law_736 rfl (lv_at hl 3 rfl) ?_
  refine lv_iconst (v := 2) hx hb dL_law_737 (by decide) ?_
  refine lv_iadd hx hb dL_law_738 ?_
  rw [show nI i + (2 : Int32) = nI (i + 2) from nI_add i 2]
  refine og_sld (j := i + 2) (v := (xs (i + 2))) hx hb hX hbl hbA hS (by omega) (by omega) rfl dL_law_739 ?_
  refine lv_aload_n hx hb dL_law_740 rfl (lv_at hl 0 rfl) ?_
  refine lv_iload_n hx hb dL_law_741 rfl (lv_at hl 3 rfl) ?_
  refine lv_iconst (v := 3) hx hb dL_law_742 (by decide) ?_
  refine lv_iadd hx hb dL_law_743 ?_
  rw [show nI i + (3 : Int32) = nI (i + 3) from nI_add i 3]
  refine og_sld (j := i + 3) (v := (xs (i + 3))) hx hb hX hbl hbA hS (by omega) (by omega) rfl dL_law_744 ?_
  refine lv_aload_n hx hb dL_law_745 rfl (lv_at hl 0 rfl) ?_
  refine lv_iload_n hx hb dL_law_746 rfl (lv_at hl 3 rfl) ?_
  refine lv_iconst (v := 4) hx hb dL_law_747 (by decide) ?_
  refine lv_iadd hx hb dL_law_748 ?_
  rw [show nI i + (4 : Int32) = nI (i + 4) from nI_add i 4]
  refine og_sld (j := i + 4) (v := (xs (i + 4))) hx hb hX hbl hbA hS (by omega) (by omega) rfl dL_law_749 ?_
  refine og_ciW (og_runV (C := RX4) (T := TX4) (N := 19) (g := 10) (i := 0) (As := [.int (xs (i + 1)), .int (xs (i + 2)), .int (xs (i + 3)), .int (xs (i + 4))]) (rest := [.int ((fX3_lay st (xs (i + 1)) (xs (i + 2)) (xs (i + 3)) (xs (i + 4))).1)]) ⟨hx, hb, hml, hown, hts⟩ (kX4_lay_n l D ca ad A (fX3_lay st (xs (i + 1)) (xs (i + 2)) (xs (i + 3)) (xs (i + 4))).2 (xs (i + 1)) (xs (i + 2)) (xs (i + 3)) (xs (i + 4)) hn0 hn1) (cwV 4 hts gL_law_X4_lay rfl rfl rfl (by decide +kernel) ⟨Nat.le_of_ble_eq_true rfl, Nat.le_of_ble_eq_true rfl⟩) hC hP hS (ow_q10_0) rfl rfl rfl hl.1 rfl (Nat.le_of_ble_eq_true rfl) dL_law_750 ⟨Nat.le_refl _, Nat.le_refl _⟩) hS (fun H locs hP hS => ?_)
  refine lv_icmp_eq (tgt := 990) hx hb dL_law_753 (by decide) (fun _ => ?_) (fun c => absurd ((eq_lay_n h (xs (i + 1)) (xs (i + 2)) (xs (i + 3)) (xs (i + 4)) hn0 hn1).1) c)
  exact K _ _ _ ls (eq_lay_n h (xs (i + 1)) (xs (i + 2)) (xs (i + 3)) (xs (i + 4)) hn0 hn1).2 hP hS hl

set_option maxHeartbeats 4000000 in
set_option maxRecDepth 100000 in
theorem lawc_14_0 {p : Program} {l : Launch} {e : Env} {s : State} {m : MethodId} {below : List Frame} {meth : Method} {c : Code} {D : va_G} {ca : Nat → ClassId} {ad : ow_Ad} {b L : Nat} {xs : Nat → Int32} {Q : State → Prop} {A : Nat → Prop} (hx : p.tables.exec = Jvm.exec) (hb : c.code = cL_law) (hml : c.maxLocals = 4) (hown : s.vm.findClass RL = some m.cls) (hts : ∀ w ∈ wsL_law, w.before #[Value.ref b] s = true) (hC : ow_C D ca ad A s) (hbA : ¬ A b) (hX : va_X b L xs s s.heap) (hbl : b < s.heap.size) (hL : L ≤ 3072) {st : ow_St} {i : Nat} {H : Heap} {locs : List Loc} {ls : Array Slot} (hi : i + 6 ≤ L) (h : RLs st) (hf1 : xs (i + 1) = 0) (hP : va_P D vwCl (ow_ws ad (ow_c ca ad st)) H) (hS : va_S A s.heap H locs) (hl : lv_has ls 4 [(0, .ref b), (1, .ref (ad 0 0)), (2, .ref (ad 10 0)), (3, .int (nI i))]) (K : ∀ (st : ow_St) (H : Heap) (locs : List Loc) (ls : Array Slot), RLs st → va_P D vwCl (ow_ws ad (ow_c ca ad st)) H → va_S A s.heap H locs → lv_has ls 4 [(0, .ref b), (1, .ref (ad 0 0)), (2, .ref (ad 10 0)), (3, .int (nI i))] → W p l e room_1 s m #[Value.ref b] below meth c H locs 600000 7302250 Q (F0 m 990 ls [])) : W p l e room_1 s m #[Value.ref b] below meth c H locs 600000 7302250 Q (F0 m 758 ls []) := by
  refine lv_aload_n hx hb dL_law_758 rfl (lv_at hl 1 rfl) ?_
  refine lv_aload_n hx hb dL_law_759 rfl (lv_at hl 0 rfl) ?_
  refine lv_iload_n hx hb dL_law_760 rfl (lv_at hl 3 rfl) ?_
  refine lv_iconst (v := 1) hx hb dL_law_761 (by decide) ?_
  refine lv_iadd hx hb dL_law_762 ?_
  rw [show nI i + (1 : Int32) = nI (i + 1) from nI_add i 1]
  refine og_sld (j := i + 1) (v := 0) hx hb hX hbl hbA hS (by omega) (by omega) hf1 dL_law_763 ?_
  refine lv_aload_n hx hb dL_law_764 rfl (lv_at hl 0 rfl) ?_
  refine lv_iload_n hx hb dL_law_765 rfl (lv_at hl 3 rfl) ?_
  refine lv_iconst (v := 2) hx hb dL_law_766 (by decide) ?_
  refine lv_iadd hx hb dL_law_767 ?_
  rw [show nI i + (2 : Int32) = nI (i + 2) from nI_add i 2]
  refine og_sld (j := i + 2) (v := (xs (i + 2))) hx hb hX hbl hbA hS (by omega) (by omega) rfl dL_law_768 ?_
  refine lv_aload_n hx hb dL_law_769 rfl (lv_at hl 0 rfl) ?_
  refine lv_iload_n hx hb dL_law_770 rfl (lv_at hl 3 rfl) ?_
  refine lv_iconst (v := 3) hx hb dL_law_771 (by decide) ?_
  refine lv_iadd hx hb dL_law_772 ?_
  rw [show nI i + (3 : Int32) = nI (i + 3) from nI_add i 3]
  refine og_sld (j := i + 3) (v := (xs (i + 3))) hx hb hX hbl hbA hS (by omega) (by omega) rfl dL_law_773 ?_
  refine og_ciP (og_runV (C := RX3) (T := TX3) (N := 14) (g := 0) (i := 0) (As := [.int 0, .int (xs (i + 2)), .int (xs (i + 3))]) (rest := []) ⟨hx, hb, hml, hown, hts⟩ (kX3_cell l D ca ad A st 0 (xs (i + 2)) (xs (i + 3)) (RL_sz h (by decide)) (RL_sz h (by decide))) (cwV 3 hts gL_law_X3_cell rfl rfl rfl (by decide +kernel) ⟨Nat.le_of_ble_eq_true rfl, Nat.le_of_ble_eq_true rfl⟩) hC hP hS (ow_q0_0) rfl rfl rfl hl.1 rfl (Nat.le_of_ble_eq_true rfl) dL_law_774 ⟨Nat.le_refl _, Nat.le_refl _⟩) hS (fun H locs hP hS => ?_)
  refine lv_aload_n hx hb dL_law_777 rfl (lv_at hl 2 rfl) ?_
  refine lv_aload_n hx hb dL_law_778 rfl (lv_at hl 0 rfl) ?_
  refine lv_iload_n hx hb dL_law_779 rfl (lv_at hl 3 rfl) ?_
  refine lv_iconst (v := 1) hx hb dL_law_780 (by decide) ?_
  refine lv_iadd hx hb dL_law_781 ?_
  rw [show nI i + (1 : Int32) = nI (i + 1) from nI_add i 1]
  refine og_sld (j := i + 1) (v := 0) hx hb hX hbl hbA hS (by omega) (by omega) hf1 dL_law_782 ?_
  refine lv_aload_n hx hb dL_law_783 rfl (lv_at hl 0 rfl) ?_
  refine lv_iload_n hx hb dL_law_784 rfl (lv_at hl 3 rfl) ?_
  refine lv_iconst (v := 2) hx hb dL_law_785 (by decide) ?_
  refine lv_iadd hx hb dL_law_786 ?_
  rw [show nI i + (2 : Int32) = nI (i + 2) from nI_add i 2]
  refine og_sld (j := i + 2) (v := (xs (i + 2))) hx hb hX hbl hbA hS (by omega) (by omega) rfl dL_law_787 ?_
  refine lv_aload_n hx hb dL_law_788 rfl (lv_at hl 0 rfl) ?_
  refine lv_iload_n hx hb dL_law_789 rfl (lv_at hl 3 rfl) ?_
  refine lv_iconst (v := 3) hx hb dL_law_790 (by decide) ?_
  refine lv_iadd hx hb dL_law_791 ?_
  rw [show nI i + (3 : Int32) = nI (i + 3) from nI_add i 3]
  refine og_sld (j := i + 3) (v := (xs (i + 3))) hx hb hX hbl hbA hS (by omega) (by omega) rfl dL_law_792 ?_
  refine og_ciP (og_runV (C := RX4) (T := TX4) (N := 19) (g := 10) (i := 0) (As := [.int 0, .int (xs (i + 2)), .int (xs (i + 3))]) (rest := [.int (fX3_cell st 0 (xs (i + 2)) (xs (i + 3)))]) ⟨hx, hb, hml, hown, hts⟩ (kX4_cell_0 l D ca ad A st (xs (i + 2)) (xs (i + 3)) ((RL_mok h).2.2.1 0 (by decide)) (RL_mok h).2.2.2.2) (cwV 3 hts gL_law_X4_cell rfl rfl rfl (by decide +kernel) ⟨Nat.le_of_ble_eq_true rfl, Nat.le_of_ble_eq_true rfl⟩) hC hP hS (ow_q10_0) rfl rfl rfl hl.1 rfl (Nat.le_of_ble_eq_true rfl) dL_law_793 ⟨Nat.le_refl _, Nat.le_refl _⟩) hS (fun H locs hP hS => ?_)
  refine lv_icmp_eq (tgt := 990) hx hb dL_law_796 (by decide) (fun _ => ?_) (fun c => absurd (eq_cell_0 h (xs (i + 2)) (xs (i + 3))) c)
  exact K _ _ _ ls h hP hS hl

set_option maxHeartbeats 4000000 in
set_option maxRecDepth 100000 in
theorem lawc_14_1 {p : Program} {l : Launch} {e : Env} {s : State} {m : MethodId} {below : List Frame} {meth : Method} {c : Code} {D : va_G} {ca : Nat → ClassId} {ad : ow_Ad} {b L : Nat} {xs : Nat → Int32} {Q : State → Prop} {A : Nat → Prop} (hx : p.tables.exec = Jvm.exec) (hb : c.code = cL_law) (hml : c.maxLocals = 4) (hown : s.vm.findClass RL = some m.cls) (hts : ∀ w ∈ wsL_law, w.before #[Value.ref b] s = true) (hC : ow_C D ca ad A s) (hbA : ¬ A b) (hX : va_X b L xs s s.heap) (hbl : b < s.heap.size) (hL : L ≤ 3072) {st : ow_St} {i : Nat} {H : Heap} {locs : List Loc} {ls : Array Slot} (hi : i + 6 ≤ L) (h : RLs st) (hf1 : xs (i + 1) = 1) (hP : va_P D vwCl (ow_ws ad (ow_c ca ad st)) H) (hS : va_S A s.heap H locs) (hl : lv_has ls 4 [(0, .ref b), (1, .ref (ad 0 0)), (2, .ref (ad 10 0)), (3, .int (nI i))]) (K : ∀ (st : ow_St) (H : Heap) (locs : List Loc) (ls : Array Slot), RLs st → va_P D vwCl (ow_ws ad (ow_c ca ad st)) H → va_S A s.heap H locs → lv_has ls 4 [(0, .ref b), (1, .ref (ad 0 0)), (2, .ref (ad 10 0)), (3, .int (nI i))] → W p l e room_1 s m #[Value.ref b] below meth c H locs 600000 7302250 Q (F0 m 990 ls [])) : W p l e room_1 s m #[Value.ref b] below meth c H locs 600000 7302250 Q (F0 m 758 ls []) := by
  refine lv_aload_n hx hb dL_law_758 rfl (lv_at hl 1 rfl) ?_
  refine lv_aload_n hx hb dL_law_759 rfl (lv_at hl 0 rfl) ?_
  refine lv_iload_n hx hb dL_law_760 rfl (lv_at hl 3 rfl) ?_
  refine lv_iconst (v := 1) hx hb dL_law_761 (by decide) ?_
  refine lv_iadd hx hb dL_law_762 ?_
  rw [show nI i + (1 : Int32) = nI (i + 1) from nI_add i 1]
  refine og_sld (j := i + 1) (v := 1) hx hb hX hbl hbA hS (by omega) (by omega) hf1 dL_law_763 ?_
  refine lv_aload_n hx hb dL_law_764 rfl (lv_at hl 0 rfl) ?_
  refine lv_iload_n hx hb dL_law_765 rfl (lv_at hl 3 rfl) ?_
  refine lv_iconst (v := 2) hx hb dL_law_766 (by decide) ?_
  refine lv_iadd hx hb dL_law_767 ?_
  rw [show nI i + (2 : Int32) = nI (i + 2) from nI_add i 2]
  refine og_sld (j := i + 2) (v := (xs (i + 2))) hx hb hX hbl hbA hS (by omega) (by omega) rfl dL_law_768 ?_
  refine lv_aload_n hx hb dL_law_769 rfl (lv_at hl 0 rfl) ?_
  refine lv_iload_n hx hb dL_law_770 rfl (lv_at hl 3 rfl) ?_
  refine lv_iconst (v := 3) hx hb dL_law_771 (by decide) ?_
  refine lv_iadd hx hb dL_law_772 ?_
  rw [show nI i + (3 : Int32) = nI (i + 3) from nI_add i 3]
  refine og_sld (j := i + 3) (v := (xs (i + 3))) hx hb hX hbl hbA hS (by omega) (by omega) rfl dL_law_773 ?_
  refine og_ciP (og_runV (C := RX3) (T := TX3) (N := 14) (g := 0) (i := 0) (As := [.int 1, .int (xs (i + 2)), .int (xs (i + 3))]) (rest := []) ⟨hx, hb, hml, hown, hts⟩ (kX3_cell l D ca ad A st 1 (xs (i + 2)) (xs (i + 3)) (RL_sz h (by decide)) (RL_sz h (by decide))) (cwV 3 hts gL_law_X3_cell rfl rfl rfl (by decide +kernel) ⟨Nat.le_of_ble_eq_true rfl, Nat.le_of_ble_eq_true rfl⟩) hC hP hS (ow_q0_0) rfl rfl rfl hl.1 rfl (Nat.le_of_ble_eq_true rfl) dL_law_774 ⟨Nat.le_refl _, Nat.le_refl _⟩) hS (fun H locs hP hS => ?_)
  refine lv_aload_n hx hb dL_law_777 rfl (lv_at hl 2 rfl) ?_
  refine lv_aload_n hx hb dL_law_778 rfl (lv_at hl 0 rfl) ?_
  refine lv_iload_n hx hb dL_law_779 rfl (lv_at hl 3 rfl) ?_
  refine lv_iconst (v := 1) hx hb dL_law_780 (by decide) ?_
  refine lv_iadd hx hb dL_law_781 ?_
  rw [show nI i + (1 : Int32) = nI (i + 1) from nI_add i 1]
  refine og_sld (j := i + 1) (v := 1) hx hb hX hbl hbA hS (by omega) (by omega) hf1 dL_law_782 ?_
  refine lv_aload_n hx hb dL_law_783 rfl (lv_at hl 0 rfl) ?_
  refine lv_iload_n hx hb dL_law_784 rfl (lv_at hl 3 rfl) ?_
  refine lv_iconst (v := 2) hx hb dL_law_785 (by decide) ?_
  refine lv_iadd hx hb dL_law_786 ?_
  rw [show nI i + (2 : Int32) = nI (i + 2) from nI_add i 2]
  refine og_sld (j := i + 2) (v := (xs (i + 2))) hx hb hX hbl hbA hS (by omega) (by omega) rfl dL_law_787 ?_
  refine lv_aload_n hx hb dL_law_788 rfl (lv_at hl 0 rfl) ?_
  refine lv_iload_n hx hb dL_law_789 rfl (lv_at hl 3 rfl) ?_
  refine lv_iconst (v := 3) hx hb dL_law_790 (by decide) ?_
  refine lv_iadd hx hb dL_law_791 ?_
  rw [show nI i + (3 : Int32) = nI (i + 3) from nI_add i 3]
  refine og_sld (j := i + 3) (v := (xs (i + 3))) hx hb hX hbl hbA hS (by omega) (by omega) rfl dL_law_792 ?_
  refine og_ciP (og_runV (C := RX4) (T := TX4) (N := 19) (g := 10) (i := 0) (As := [.int 1, .int (xs (i + 2)), .int (xs (i + 3))]) (rest := [.int (fX3_cell st 1 (xs (i + 2)) (xs (i + 3)))]) ⟨hx, hb, hml, hown, hts⟩ (kX4_cell_1 l D ca ad A st (xs (i + 2)) (xs (i + 3)) ((RL_mok h).2.2.1 1 (by decide)) (RL_mok h).2.2.2.2) (cwV 3 hts gL_law_X4_cell rfl rfl rfl (by decide +kernel) ⟨Nat.le_of_ble_eq_true rfl, Nat.le_of_ble_eq_true rfl⟩) hC hP hS (ow_q10_0) rfl rfl rfl hl.1 rfl (Nat.le_of_ble_eq_true rfl) dL_law_793 ⟨Nat.le_refl _, Nat.le_refl _⟩) hS (fun H locs hP hS => ?_)
  refine lv_icmp_eq (tgt := 990) hx hb dL_law_796 (by decide) (fun _ => ?_) (fun c => absurd (eq_cell_1 h (xs (i + 2)) (xs (i + 3))) c)
  exact K _ _ _ ls h hP hS hl

set_option maxHeartbeats 4000000 in
set_option maxRecDepth 100000 in
theorem lawc_14_n {p : Program} {l : Launch} {e : Env} {s : State} {m : MethodId} {below : List Frame} {meth : Method} {c : Code} {D : va_G} {ca : Nat → ClassId} {ad : ow_Ad} {b L : Nat} {xs : Nat → Int32} {Q : State → Prop} {A : Nat → Prop} (hx : p.tables.exec = Jvm.exec) (hb : c.code = cL_law) (hml : c.maxLocals = 4) (hown : s.vm.findClass RL = some m.cls) (hts : ∀ w ∈ wsL_law, w.before #[Value.ref b] s = true) (hC : ow_C D ca ad A s) (hbA : ¬ A b) (hX : va_X b L xs s s.heap) (hbl : b < s.heap.size) (hL : L ≤ 3072) {st : ow_St} {i : Nat} {H : Heap} {locs : List Loc} {ls : Array Slot} (hi : i + 6 ≤ L) (h : RLs st) (hn0 : ¬ xs (i + 1) = 0) (hn1 : ¬ xs (i + 1) = 1) (hP : va_P D vwCl (ow_ws ad (ow_c ca ad st)) H) (hS : va_S A s.heap H locs) (hl : lv_has ls 4 [(0, .ref b), (1, .ref (ad 0 0)), (2, .ref (ad 10 0)), (3, .int (nI i))]) (K : ∀ (st : ow_St) (H : Heap) (locs : List Loc) (ls : Array Slot), RLs st → va_P D vwCl (ow_ws ad (ow_c ca ad st)) H → va_S A s.heap H locs → lv_has ls 4 [(0, .ref b), (1, .ref (ad 0 0)), (2, .ref (ad 10 0)), (3, .int (nI i))] → W p l e room_1 s m #[Value.ref b] below meth c H locs 600000 7302250 Q (F0 m 990 ls [])) : W p l e room_1 s m #[Value.ref b] below meth c H locs 600000 7302250 Q (F0 m 758 ls []) := by
  refine lv_aload_n hx hb dL_law_758 rfl (lv_at hl 1 rfl) ?_
  refine lv_aload_n hx hb dL_law_759 rfl (lv_at hl 0 rfl) ?_
  refine lv_iload_n hx hb dL_law_760 rfl (lv_at hl 3 rfl) ?_
  refine lv_iconst (v := 1) hx hb dL_law_761 (by decide) ?_
  refine lv_iadd hx hb dL_law_762 ?_
  rw [show nI i + (1 : Int32) = nI (i + 1) from nI_add i 1]
  refine og_sld (j := i + 1) (v := (xs (i + 1))) hx hb hX hbl hbA hS (by omega) (by omega) rfl dL_law_763 ?_
  refine lv_aload_n hx hb dL_law_764 rfl (lv_at hl 0 rfl) ?_
  refine lv_iload_n hx hb dL_law_765 rfl (lv_at hl 3 rfl) ?_
  refine lv_iconst (v := 2) hx hb dL_law_766 (by decide) ?_
  refine lv_iadd hx hb dL_law_767 ?_
  rw [show nI i + (2 : Int32) = nI (i + 2) from nI_add i 2]
  refine og_sld (j := i + 2) (v := (xs (i + 2))) hx hb hX hbl hbA hS (by omega) (by omega) rfl dL_law_768 ?_
  refine lv_aload_n hx hb dL_law_769 rfl (lv_at hl 0 rfl) ?_
  refine lv_iload_n hx hb dL_law_770 rfl (lv_at hl 3 rfl) ?_
  refine lv_iconst (v := 3) hx hb dL_law_771 (by decide) ?_
  refine lv_iadd hx hb dL_law_772 ?_
  rw [show nI i + (3 : Int32) = nI (i + 3) from nI_add i 3]
  refine og_sld (j := i + 3) (v := (xs (i + 3))) hx hb hX hbl hbA hS (by omega) (by omega) rfl dL_law_773 ?_
  refine og_ciP (og_runV (C := RX3) (T := TX3) (N := 14) (g := 0) (i := 0) (As := [.int (xs (i + 1)), .int (xs (i + 2)), .int (xs (i + 3))]) (rest := []) ⟨hx, hb, hml, hown, hts⟩ (kX3_cell l D ca ad A st (xs (i + 1)) (xs (i + 2)) (xs (i + 3)) (RL_sz h (by decide)) (RL_sz h (by decide))) (cwV 3 hts gL_law_X3_cell rfl rfl rfl (by decide +kernel) ⟨Nat.le_of_ble_eq_true rfl, Nat.le_of_ble_eq_true rfl⟩) hC hP hS (ow_q0_0) rfl rfl rfl hl.1 rfl (Nat.le_of_ble_eq_true rfl) dL_law_774 ⟨Nat.le_refl _, Nat.le_refl _⟩) hS (fun H locs hP hS => ?_)
  refine lv_aload_n hx hb dL_law_777 rfl (lv_at hl 2 rfl) ?_
  refine lv_aload_n hx hb dL_law_778 rfl (lv_at hl 0 rfl) ?_
  refine lv_iload_n hx hb dL_law_779 rfl (lv_at hl 3 rfl) ?_
  refine lv_iconst (v := 1) hx hb dL_law_780 (by decide) ?_
  refine lv_iadd hx hb dL_law_781 ?_
  rw [show nI i + (1 : Int32) = nI (i + 1) from nI_add i 1]
  refine og_sld (j := i + 1) (v := (xs (i + 1))) hx hb hX hbl hbA hS (by omega) (by omega) rfl dL_law_782 ?_
  refine lv_aload_n hx hb dL_law_783 rfl (lv_at hl 0 rfl) ?_
  refine lv_iload_n hx hb dL_law_784 rfl (lv_at hl 3 rfl) ?_
  refine lv_iconst (v := 2) hx hb dL_law_785 (by decide) ?_
  refine lv_iadd hx hb dL_law_786 ?_
  rw [show nI i + (2 : Int32) = nI (i + 2) from nI_add i 2]
  refine og_sld (j := i + 2) (v := (xs (i + 2))) hx hb hX hbl hbA hS (by omega) (by omega) rfl dL_law_787 ?_
  refine lv_aload_n hx hb dL_law_788 rfl (lv_at hl 0 rfl) ?_
  refine lv_iload_n hx hb dL_law_789 rfl (lv_at hl 3 rfl) ?_
  refine lv_iconst (v := 3) hx hb dL_law_790 (by decide) ?_
  refine lv_iadd hx hb dL_law_791 ?_
  rw [show nI i + (3 : Int32) = nI (i + 3) from nI_add i 3]
  refine og_sld (j := i + 3) (v := (xs (i + 3))) hx hb hX hbl hbA hS (by omega) (by omega) rfl dL_law_792 ?_
  refine og_ciP (F := (-2000000000)) (og_runV (C := RX4) (T := TX4) (N := 19) (g := 10) (i := 0) (As := [.int (xs (i + 1)), .int (xs (i + 2)), .int (xs (i + 3))]) (rest := [.int (fX3_cell st (xs (i + 1)) (xs (i + 2)) (xs (i + 3)))]) ⟨hx, hb, hml, hown, hts⟩ (kX4_cell_n l D ca ad A st (xs (i + 1)) (xs (i + 2)) (xs (i + 3)) hn0 hn1) (cwV 3 hts gL_law_X4_cell rfl rfl rfl (by decide +kernel) ⟨Nat.le_of_ble_eq_true rfl, Nat.le_of_ble_eq_true rfl⟩) hC hP hS (ow_q10_0) rfl rfl rfl hl.1 rfl (Nat.le_of_ble_eq_true rfl) dL_law_793 ⟨Nat.le_refl _, Nat.le_refl _⟩) hS (fun H locs hP hS => ?_)
  refine lv_icmp_eq (tgt := 990) hx hb dL_law_796 (by decide) (fun _ => ?_) (fun c => absurd (eq_cell_n h (xs (i + 1)) (xs (i + 2)) (xs (i + 3)) hn0 hn1) c)
  exact K _ _ _ ls h hP hS hl

set_option maxHeartbeats 4000000 in
set_option maxRecDepth 100000 in
theorem lawc_15_0 {p : Program} {l : Launch} {e : Env} {s : State} {m : MethodId} {below : List Frame} {meth : Method} {c : Code} {D : va_G} {ca : Nat → ClassId} {ad : ow_Ad} {b L : Nat} {xs : Nat → Int32} {Q : State → Prop} {A : Nat → Prop} (hx : p.tables.exec = Jvm.exec) (hb : c.code = cL_law) (hml : c.maxLocals = 4) (hown : s.vm.findClass RL = some m.cls) (hts : ∀ w ∈ wsL_law, w.before #[Value.ref b] s = true) (hC : ow_C D ca ad A s) (hbA : ¬ A b) (hX : va_X b L xs s s.heap) (hbl : b < s.heap.size) (hL : L ≤ 3072) {st : ow_St} {i : Nat} {H : Heap} {locs : List Loc} {ls : Array Slot} (hi : i + 6 ≤ L) (h : RLs st) (hf1 : xs (i + 1) = 0) (hP : va_P D vwCl (ow_ws ad (ow_c ca ad st)) H) (hS : va_S A s.heap H locs) (hl : lv_has ls 4 [(0, .ref b), (1, .ref (ad 0 0)), (2, .ref (ad 10 0)), (3, .int (nI i))]) (K : ∀ (st : ow_St) (H : Heap) (locs : List Loc) (ls : Array Slot), RLs st → va_P D vwCl (ow_ws ad (ow_c ca ad st)) H → va_S A s.heap H locs → lv_has ls 4 [(0, .ref b), (1, .ref (ad 0 0)), (2, .ref (ad 10 0)), (3, .int (nI i))] → W p l e room_1 s m #[Value.ref b] below meth c H locs 600000 7302250 Q (F0 m 990 ls [])) : W p l e room_1 s m #[Value.ref b] below meth c H locs 600000 7302250 Q (F0 m 801 ls []) := by
  refine lv_aload_n hx hb dL_law_801 rfl (lv_at hl 1 rfl) ?_
  refine lv_aload_n hx hb dL_law_802 rfl (lv_at hl 0 rfl) ?_
  refine lv_iload_n hx hb dL_law_803 rfl (lv_at hl 3 rfl) ?_
  refine lv_iconst (v := 1) hx hb dL_law_804 (by decide) ?_
  refine lv_iadd hx hb dL_law_805 ?_
  rw [show nI i + (1 : Int32) = nI (i + 1) from nI_add i 1]
  refine og_sld (j := i + 1) (v := 0) hx hb hX hbl hbA hS (by omega) (by omega) hf1 dL_law_806 ?_
  refine lv_aload_n hx hb dL_law_807 rfl (lv_at hl 0 rfl) ?_
  refine lv_iload_n hx hb dL_law_808 rfl (lv_at hl 3 rfl) ?_
  refine lv_iconst (v := 2) hx hb dL_law_809 (by decide) ?_
  refine lv_iadd hx hb dL_law_810 ?_
  rw [show nI i + (2 : Int32) = nI (i + 2) from nI_add i 2]
  refine og_sld (j := i + 2) (v := (xs (i + 2))) hx hb hX hbl hbA hS (by omega) (by omega) rfl dL_law_811 ?_
  refine og_ciW (og_runV (C := RX3) (T := TX3) (N := 14) (g := 0) (i := 0) (As := [.int 0, .int (xs (i + 2))]) (rest := []) ⟨hx, hb, hml, hown, hts⟩ (kX3_back l D ca ad A st 0 (xs (i + 2)) (RL_sz h (by decide)) (RL_sz h (by decide))) (cwV 2 hts gL_law_X3_back rfl rfl rfl (by decide +kernel) ⟨Nat.le_of_ble_eq_true rfl, Nat.le_of_ble_eq_true rfl⟩) hC hP hS (ow_q0_0) rfl rfl rfl hl.1 rfl (Nat.le_of_ble_eq_true rfl) dL_law_812 ⟨Nat.le_refl _, Nat.le_refl _⟩) hS (fun H locs hP hS => ?_)
  refine lv_aload_n hx hb dL_law_815 rfl (lv_at hl 2 rfl) ?_
  refine lv_aload_n hx hb dL_law_816 rfl (lv_at hl 0 rfl) ?_
  refine lv_iload_n hx hb dL_law_817 rfl (lv_at hl 3 rfl) ?_
  refine lv_iconst (v := 1) hx hb dL_law_818 (by decide) ?_
  refine lv_iadd hx hb dL_law_819 ?_
  rw [show nI i + (1 : Int32) = nI (i + 1) from nI_add i 1]
  refine og_sld (j := i + 1) (v := 0) hx hb hX hbl hbA hS (by omega) (by omega) hf1 dL_law_820 ?_
  refine lv_aload_n hx hb dL_law_821 rfl (lv_at hl 0 rfl) ?_
  refine lv_iload_n hx hb dL_law_822 rfl (lv_at hl 3 rfl) ?_
  refine lv_iconst (v := 2) hx hb dL_law_823 (by decide) ?_
  refine lv_iadd hx hb dL_law_824 ?_
  rw [show nI i + (2 : Int32) = nI (i + 2) from nI_add i 2]
  refine og_sld (j := i + 2) (v := (xs (i + 2))) hx hb hX hbl hbA hS (by omega) (by omega) rfl dL_law_825 ?_
  refine og_ciW (og_runV (C := RX4) (T := TX4) (N := 19) (g := 10) (i := 0) (As := [.int 0, .int (xs (i + 2))]) (rest := [.int ((fX3_back st 0 (xs (i + 2))).1)]) ⟨hx, hb, hml, hown, hts⟩ (kX4_back_0 l D ca ad A (fX3_back st 0 (xs (i + 2))).2 (xs (i + 2)) ((MOK_of (RL_mok h) (mk_back_0 h (xs (i + 2)))).2.2.1 0 (by decide))) (cwV 2 hts gL_law_X4_back rfl rfl rfl (by decide +kernel) ⟨Nat.le_of_ble_eq_true rfl, Nat.le_of_ble_eq_true rfl⟩) hC hP hS (ow_q10_0) rfl rfl rfl hl.1 rfl (Nat.le_of_ble_eq_true rfl) dL_law_826 ⟨Nat.le_refl _, Nat.le_refl _⟩) hS (fun H locs hP hS => ?_)
  refine lv_icmp_eq (tgt := 990) hx hb dL_law_829 (by decide) (fun _ => ?_) (fun c => absurd ((eq_back_0 h (xs (i + 2))).1) c)
  exact K _ _ _ ls (eq_back_0 h (xs (i + 2))).2 hP hS hl

set_option maxHeartbeats 4000000 in
set_option maxRecDepth 100000 in
theorem lawc_15_1 {p : Program} {l : Launch} {e : Env} {s : State} {m : MethodId} {below : List Frame} {meth : Method} {c : Code} {D : va_G} {ca : Nat → ClassId} {ad : ow_Ad} {b L : Nat} {xs : Nat → Int32} {Q : State → Prop} {A : Nat → Prop} (hx : p.tables.exec = Jvm.exec) (hb : c.code = cL_law) (hml : c.maxLocals = 4) (hown : s.vm.findClass RL = some m.cls) (hts : ∀ w ∈ wsL_law, w.before #[Value.ref b] s = true) (hC : ow_C D ca ad A s) (hbA : ¬ A b) (hX : va_X b L xs s s.heap) (hbl : b < s.heap.size) (hL : L ≤ 3072) {st : ow_St} {i : Nat} {H : Heap} {locs : List Loc} {ls : Array Slot} (hi : i + 6 ≤ L) (h : RLs st) (hf1 : xs (i + 1) = 1) (hP : va_P D vwCl (ow_ws ad (ow_c ca ad st)) H) (hS : va_S A s.heap H locs) (hl : lv_has ls 4 [(0, .ref b), (1, .ref (ad 0 0)), (2, .ref (ad 10 0)), (3, .int (nI i))]) (K : ∀ (st : ow_St) (H : Heap) (locs : List Loc) (ls : Array Slot), RLs st → va_P D vwCl (ow_ws ad (ow_c ca ad st)) H → va_S A s.heap H locs → lv_has ls 4 [(0, .ref b), (1, .ref (ad 0 0)), (2, .ref (ad 10 0)), (3, .int (nI i))] → W p l e room_1 s m #[Value.ref b] below meth c H locs 600000 7302250 Q (F0 m 990 ls [])) : W p l e room_1 s m #[Value.ref b] below meth c H locs 600000 7302250 Q (F0 m 801 ls []) := by
  refine lv_aload_n hx hb dL_law_801 rfl (lv_at hl 1 rfl) ?_
  refine lv_aload_n hx hb dL_law_802 rfl (lv_at hl 0 rfl) ?_
  refine lv_iload_n hx hb dL_law_803 rfl (lv_at hl 3 rfl) ?_
  refine lv_iconst (v := 1) hx hb dL_law_804 (by decide) ?_
  refine lv_iadd hx hb dL_law_805 ?_
  rw [show nI i + (1 : Int32) = nI (i + 1) from nI_add i 1]
  refine og_sld (j := i + 1) (v := 1) hx hb hX hbl hbA hS (by omega) (by omega) hf1 dL_law_806 ?_
  refine lv_aload_n hx hb dL_law_807 rfl (lv_at hl 0 rfl) ?_
  refine lv_iload_n hx hb dL_law_808 rfl (lv_at hl 3 rfl) ?_
  refine lv_iconst (v := 2) hx hb dL_law_809 (by decide) ?_
  refine lv_iadd hx hb dL_law_810 ?_
  rw [show nI i + (2 : Int32) = nI (i + 2) from nI_add i 2]
  refine og_sld (j := i + 2) (v := (xs (i + 2))) hx hb hX hbl hbA hS (by omega) (by omega) rfl dL_law_811 ?_
  refine og_ciW (og_runV (C := RX3) (T := TX3) (N := 14) (g := 0) (i := 0) (As := [.int 1, .int (xs (i + 2))]) (rest := []) ⟨hx, hb, hml, hown, hts⟩ (kX3_back l D ca ad A st 1 (xs (i + 2)) (RL_sz h (by decide)) (RL_sz h (by decide))) (cwV 2 hts gL_law_X3_back rfl rfl rfl (by decide +kernel) ⟨Nat.le_of_ble_eq_true rfl, Nat.le_of_ble_eq_true rfl⟩) hC hP hS (ow_q0_0) rfl rfl rfl hl.1 rfl (Nat.le_of_ble_eq_true rfl) dL_law_812 ⟨Nat.le_refl _, Nat.le_refl _⟩) hS (fun H locs hP hS => ?_)
  refine lv_aload_n hx hb dL_law_815 rfl (lv_at hl 2 rfl) ?_
  refine lv_aload_n hx hb dL_law_816 rfl (lv_at hl 0 rfl) ?_
  refine lv_iload_n hx hb dL_law_817 rfl (lv_at hl 3 rfl) ?_
  refine lv_iconst (v := 1) hx hb dL_law_818 (by decide) ?_
  refine lv_iadd hx hb dL_law_819 ?_
  rw [show nI i + (1 : Int32) = nI (i + 1) from nI_add i 1]
  refine og_sld (j := i + 1) (v := 1) hx hb hX hbl hbA hS (by omega) (by omega) hf1 dL_law_820 ?_
  refine lv_aload_n hx hb dL_law_821 rfl (lv_at hl 0 rfl) ?_
  refine lv_iload_n hx hb dL_law_822 rfl (lv_at hl 3 rfl) ?_
  refine lv_iconst (v := 2) hx hb dL_law_823 (by decide) ?_
  refine lv_iadd hx hb dL_law_824 ?_
  rw [show nI i + (2 : Int32) = nI (i + 2) from nI_add i 2]
  refine og_sld (j := i + 2) (v := (xs (i + 2))) hx hb hX hbl hbA hS (by omega) (by omega) rfl dL_law_825 ?_
  refine og_ciW (og_runV (C := RX4) (T := TX4) (N := 19) (g := 10) (i := 0) (As := [.int 1, .int (xs (i + 2))]) (rest := [.int ((fX3_back st 1 (xs (i + 2))).1)]) ⟨hx, hb, hml, hown, hts⟩ (kX4_back_1 l D ca ad A (fX3_back st 1 (xs (i + 2))).2 (xs (i + 2)) ((MOK_of (RL_mok h) (mk_back_1 h (xs (i + 2)))).2.2.1 1 (by decide))) (cwV 2 hts gL_law_X4_back rfl rfl rfl (by decide +kernel) ⟨Nat.le_of_ble_eq_true rfl, Nat.le_of_ble_eq_true rfl⟩) hC hP hS (ow_q10_0) rfl rfl rfl hl.1 rfl (Nat.le_of_ble_eq_true rfl) dL_law_826 ⟨Nat.le_refl _, Nat.le_refl _⟩) hS (fun H locs hP hS => ?_)
  refine lv_icmp_eq (tgt := 990) hx hb dL_law_829 (by decide) (fun _ => ?_) (fun c => absurd ((eq_back_1 h (xs (i + 2))).1) c)
  exact K _ _ _ ls (eq_back_1 h (xs (i + 2))).2 hP hS hl

set_option maxHeartbeats 4000000 in
set_option maxRecDepth 100000 in
theorem lawc_15_n {p : Program} {l : Launch} {e : Env} {s : State} {m : MethodId} {below : List Frame} {meth : Method} {c : Code} {D : va_G} {ca : Nat → ClassId} {ad : ow_Ad} {b L : Nat} {xs : Nat → Int32} {Q : State → Prop} {A : Nat → Prop} (hx : p.tables.exec = Jvm.exec) (hb : c.code = cL_law) (hml : c.maxLocals = 4) (hown : s.vm.findClass RL = some m.cls) (hts : ∀ w ∈ wsL_law, w.before #[Value.ref b] s = true) (hC : ow_C D ca ad A s) (hbA : ¬ A b) (hX : va_X b L xs s s.heap) (hbl : b < s.heap.size) (hL : L ≤ 3072) {st : ow_St} {i : Nat} {H : Heap} {locs : List Loc} {ls : Array Slot} (hi : i + 6 ≤ L) (h : RLs st) (hn0 : ¬ xs (i + 1) = 0) (hn1 : ¬ xs (i + 1) = 1) (hP : va_P D vwCl (ow_ws ad (ow_c ca ad st)) H) (hS : va_S A s.heap H locs) (hl : lv_has ls 4 [(0, .ref b), (1, .ref (ad 0 0)), (2, .ref (ad 10 0)), (3, .int (nI i))]) (K : ∀ (st : ow_St) (H : Heap) (locs : List Loc) (ls : Array Slot), RLs st → va_P D vwCl (ow_ws ad (ow_c ca ad st)) H → va_S A s.heap H locs → lv_has ls 4 [(0, .ref b), (1, .ref (ad 0 0)), (2, .ref (ad 10 0)), (3, .int (nI i))] → W p l e room_1 s m #[Value.ref b] below meth c H locs 600000 7302250 Q (F0 m 990 ls [])) : W p l e room_1 s m #[Value.ref b] below meth c H locs 600000 7302250 Q (F0 m 801 ls []) := by
  refine lv_aload_n hx hb dL_law_801 rfl (lv_at hl 1 rfl) ?_
  refine lv_aload_n hx hb dL_law_802 rfl (lv_at hl 0 rfl) ?_
  refine lv_iload_n hx hb dL_law_803 rfl (lv_at hl 3 rfl) ?_
  refine lv_iconst (v := 1) hx hb dL_law_804 (by decide) ?_
  refine lv_iadd hx hb dL_law_805 ?_
  rw [show nI i + (1 : Int32) = nI (i + 1) from nI_add i 1]
  refine og_sld (j := i + 1) (v := (xs (i + 1))) hx hb hX hbl hbA hS (by omega) (by omega) rfl dL_law_806 ?_
  refine lv_aload_n hx hb dL_law_807 rfl (lv_at hl 0 rfl) ?_
  refine lv_iload_n hx hb dL_law_808 rfl (lv_at hl 3 rfl) ?_
  refine lv_iconst (v := 2) hx hb dL_law_809 (by decide) ?_
  refine lv_iadd hx hb dL_law_810 ?_
  rw [show nI i + (2 : Int32) = nI (i + 2) from nI_add i 2]
  refine og_sld (j := i + 2) (v := (xs (i + 2))) hx hb hX hbl hbA hS (by omega) (by omega) rfl dL_law_811 ?_
  refine og_ciW (og_runV (C := RX3) (T := TX3) (N := 14) (g := 0) (i := 0) (As := [.int (xs (i + 1)), .int (xs (i + 2))]) (rest := []) ⟨hx, hb, hml, hown, hts⟩ (kX3_back l D ca ad A st (xs (i + 1)) (xs (i + 2)) (RL_sz h (by decide)) (RL_sz h (by decide))) (cwV 2 hts gL_law_X3_back rfl rfl rfl (by decide +kernel) ⟨Nat.le_of_ble_eq_true rfl, Nat.le_of_ble_eq_true rfl⟩) hC hP hS (ow_q0_0) rfl rfl rfl hl.1 rfl (Nat.le_of_ble_eq_true rfl) dL_law_812 ⟨Nat.le_refl _, Nat.le_refl _⟩) hS (fun H locs hP hS => ?_)
  refine lv_aload_n hx hb dL_law_815 rfl (lv_at hl 2 rfl) ?_
  refine lv_aload_n hx hb dL_law_816 rfl (lv_at hl 0 rfl) ?_
  refine lv_iload_n hx hb dL_law_817 rfl (lv_at hl 3 rfl) ?_
  refine lv_iconst (v := 1) hx hb dL_law_818 (by decide) ?_
  refine lv_iadd hx hb dL_law_819 ?_
  rw [show nI i + (1 : Int32) = nI (i + 1) from nI_add i 1]
  refine og_sld (j := i + 1) (v := (xs (i + 1))) hx hb hX hbl hbA hS (by omega) (by omega) rfl dL_law_820 ?_
  refine lv_aload_n hx hb dL_law_821 rfl (lv_at hl 0 rfl) ?_
  refine lv_iload_n hx hb dL_law_822 rfl (lv_at hl 3 rfl) ?_
  refine lv_iconst (v := 2) hx hb dL_law_823 (by decide) ?_
  refine lv_iadd hx hb dL_law_824 ?_
  rw [show nI i + (2 : Int32) = nI (i + 2) from nI_add i 2]
  refine og_sld (j := i + 2) (v := (xs (i + 2))) hx hb hX hbl hbA hS (by omega) (by omega) rfl dL_law_825 ?_
  refine og_ciW (og_runV (C := RX4) (T := TX4) (N := 19) (g := 10) (i := 0) (As := [.int (xs (i + 1)), .int (xs (i + 2))]) (rest := [.int ((fX3_back st (xs (i + 1)) (xs (i + 2))).1)]) ⟨hx, hb, hml, hown, hts⟩ (kX4_back_n l D ca ad A (fX3_back st (xs (i + 1)) (xs (i + 2))).2 (xs (i + 1)) (xs (i + 2)) hn0 hn1) (cwV 2 hts gL_law_X4_back rfl rfl rfl (by decide +kernel) ⟨Nat.le_of_ble_eq_true rfl, Nat.le_of_ble_eq_true rfl⟩) hC hP hS (ow_q10_0) rfl rfl rfl hl.1 rfl (Nat.le_of_ble_eq_true rfl) dL_law_826 ⟨Nat.le_refl _, Nat.le_refl _⟩) hS (fun H locs hP hS => ?_)
  refine lv_icmp_eq (tgt := 990) hx hb dL_law_829 (by decide) (fun _ => ?_) (fun c => absurd ((eq_back_n h (xs (i + 1)) (xs (i + 2)) hn0 hn1).1) c)
  exact K _ _ _ ls (eq_back_n h (xs (i + 1)) (xs (i + 2)) hn0 hn1).2 hP hS hl

set_option maxHeartbeats 4000000 in
set_option maxRecDepth 100000 in
theorem lawc_16_n {p : Program} {l : Launch} {e : Env} {s : State} {m : MethodId} {below : List Frame} {meth : Method} {c : Code} {D : va_G} {ca : Nat → ClassId} {ad : ow_Ad} {b L : Nat} {xs : Nat → Int32} {Q : State → Prop} {A : Nat → Prop} (hx : p.tables.exec = Jvm.exec) (hb : c.code = cL_law) (hml : c.maxLocals = 4) (hown : s.vm.findClass RL = some m.cls) (hts : ∀ w ∈ wsL_law, w.before #[Value.ref b] s = true) (hC : ow_C D ca ad A s) (hbA : ¬ A b) (hX : va_X b L xs s s.heap) (hbl : b < s.heap.size) (hL : L ≤ 3072) {st : ow_St} {i : Nat} {H : Heap} {locs : List Loc} {ls : Array Slot} (hi : i + 6 ≤ L) (h : RLs st) (hp : st.2.2 0 = 0) (hq : st.1 61 2 = (-4)) (hP : va_P D vwCl (ow_ws ad (ow_c ca ad st)) H) (hS : va_S A s.heap H locs) (hl : lv_has ls 4 [(0, .ref b), (1, .ref (ad 0 0)), (2, .ref (ad 10 0)), (3, .int (nI i))]) (K : ∀ (st : ow_St) (H : Heap) (locs : List Loc) (ls : Array Slot), RLs st → va_P D vwCl (ow_ws ad (ow_c ca ad st)) H → va_S A s.heap H locs → lv_has ls 4 [(0, .ref b), (1, .ref (ad 0 0)), (2, .ref (ad 10 0)), (3, .int (nI i))] → W p l e room_1 s m #[Value.ref b] below meth c H locs 600000 7302250 Q (F0 m 990 ls [])) : W p l e room_1 s m #[Value.ref b] below meth c H locs 600000 7302250 Q (F0 m 834 ls []) := by
  refine lv_aload_n hx hb dL_law_834 rfl (lv_at hl 1 rfl) ?_
  refine lv_aload_n hx hb dL_law_835 rfl (lv_at hl 0 rfl) ?_
  refine lv_iload_n hx hb dL_law_836 rfl (lv_at hl 3 rfl) ?_
  refine lv_iconst (v := 1) hx hb dL_law_837 (by decide) ?_
  refine lv_iadd hx hb dL_law_838 ?_
  rw [show nI i + (1 : Int32) = nI (i + 1) from nI_add i 1]
  refine og_sld (j := i + 1) (v := (xs (i + 1))) hx hb hX hbl hbA hS (by omega) (by omega) rfl dL_law_839 ?_
  refine og_ciP (F := (-4)) (og_runV (C := RX3) (T := TX3) (N := 14) (g := 0) (i := 0) (As := [.int (xs (i + 1))]) (rest := []) ⟨hx, hb, hml, hown, hts⟩ (kX3_part_n l D ca ad A st (xs (i + 1)) hp) (cwV 1 hts gL_law_X3_part rfl rfl rfl (by decide +kernel) ⟨Nat.le_of_ble_eq_true rfl, Nat.le_of_ble_eq_true rfl⟩) hC hP hS (ow_q0_0) rfl rfl rfl hl.1 rfl (Nat.le_of_ble_eq_true rfl) dL_law_840 ⟨Nat.le_refl _, Nat.le_refl _⟩) hS (fun H locs hP hS => ?_)
  refine lv_aload_n hx hb dL_law_843 rfl (lv_at hl 2 rfl) ?_
  refine lv_aload_n hx hb dL_law_844 rfl (lv_at hl 0 rfl) ?_
  refine lv_iload_n hx hb dL_law_845 rfl (lv_at hl 3 rfl) ?_
  refine lv_iconst (v := 1) hx hb dL_law_846 (by decide) ?_
  refine lv_iadd hx hb dL_law_847 ?_
  rw [show nI i + (1 : Int32) = nI (i + 1) from nI_add i 1]
  refine og_sld (j := i + 1) (v := (xs (i + 1))) hx hb hX hbl hbA hS (by omega) (by omega) rfl dL_law_848 ?_
  refine og_ciP (F := (-4)) (og_runV (C := RX4) (T := TX4) (N := 19) (g := 10) (i := 0) (As := [.int (xs (i + 1))]) (rest := [.int (-4)]) ⟨hx, hb, hml, hown, hts⟩ (kX4_part_n l D ca ad A st (xs (i + 1)) hq) (cwV 1 hts gL_law_X4_part rfl rfl rfl (by decide +kernel) ⟨Nat.le_of_ble_eq_true rfl, Nat.le_of_ble_eq_true rfl⟩) hC hP hS (ow_q10_0) rfl rfl rfl hl.1 rfl (Nat.le_of_ble_eq_true rfl) dL_law_849 ⟨Nat.le_refl _, Nat.le_refl _⟩) hS (fun H locs hP hS => ?_)
  refine lv_icmp_eq (tgt := 990) hx hb dL_law_852 (by decide) (fun _ => ?_) (fun c => absurd (by decide) c)
  exact K _ _ _ ls h hP hS hl

set_option maxHeartbeats 4000000 in
set_option maxRecDepth 100000 in
theorem lawc_16_0 {p : Program} {l : Launch} {e : Env} {s : State} {m : MethodId} {below : List Frame} {meth : Method} {c : Code} {D : va_G} {ca : Nat → ClassId} {ad : ow_Ad} {b L : Nat} {xs : Nat → Int32} {Q : State → Prop} {A : Nat → Prop} (hx : p.tables.exec = Jvm.exec) (hb : c.code = cL_law) (hml : c.maxLocals = 4) (hown : s.vm.findClass RL = some m.cls) (hts : ∀ w ∈ wsL_law, w.before #[Value.ref b] s = true) (hC : ow_C D ca ad A s) (hbA : ¬ A b) (hX : va_X b L xs s s.heap) (hbl : b < s.heap.size) (hL : L ≤ 3072) {st : ow_St} {i : Nat} {H : Heap} {locs : List Loc} {ls : Array Slot} (hi : i + 6 ≤ L) (h : RLs st) (hp : st.2.2 0 = 1) (hq : st.1 61 2 = 0) (h50 : cellok (st.1 58 0) 5) (h52 : cellok (st.1 58 2) 26) (hP : va_P D vwCl (ow_ws ad (ow_c ca ad st)) H) (hS : va_S A s.heap H locs) (hl : lv_has ls 4 [(0, .ref b), (1, .ref (ad 0 0)), (2, .ref (ad 10 0)), (3, .int (nI i))]) (K : ∀ (st : ow_St) (H : Heap) (locs : List Loc) (ls : Array Slot), RLs st → va_P D vwCl (ow_ws ad (ow_c ca ad st)) H → va_S A s.heap H locs → lv_has ls 4 [(0, .ref b), (1, .ref (ad 0 0)), (2, .ref (ad 10 0)), (3, .int (nI i))] → W p l e room_1 s m #[Value.ref b] below meth c H locs 600000 7302250 Q (F0 m 990 ls [])) : W p l e room_1 s m #[Value.ref b] below meth c H locs 600000 7302250 Q (F0 m 834 ls []) := by
  refine lv_aload_n hx hb dL_law_834 rfl (lv_at hl 1 rfl) ?_
  refine lv_aload_n hx hb dL_law_835 rfl (lv_at hl 0 rfl) ?_
  refine lv_iload_n hx hb dL_law_836 rfl (lv_at hl 3 rfl) ?_
  refine lv_iconst (v := 1) hx hb dL_law_837 (by decide) ?_
  refine lv_iadd hx hb dL_law_838 ?_
  rw [show nI i + (1 : Int32) = nI (i + 1) from nI_add i 1]
  refine og_sld (j := i + 1) (v := (xs (i + 1))) hx hb hX hbl hbA hS (by omega) (by omega) rfl dL_law_839 ?_
  refine og_ciP (og_runV (C := RX3) (T := TX3) (N := 14) (g := 0) (i := 0) (As := [.int (xs (i + 1))]) (rest := []) ⟨hx, hb, hml, hown, hts⟩ (kX3_part_0 l D ca ad A st (xs (i + 1)) hp) (cwV 1 hts gL_law_X3_part rfl rfl rfl (by decide +kernel) ⟨Nat.le_of_ble_eq_true rfl, Nat.le_of_ble_eq_true rfl⟩) hC hP hS (ow_q0_0) rfl rfl rfl hl.1 rfl (Nat.le_of_ble_eq_true rfl) dL_law_840 ⟨Nat.le_refl _, Nat.le_refl _⟩) hS (fun H locs hP hS => ?_)
  refine lv_aload_n hx hb dL_law_843 rfl (lv_at hl 2 rfl) ?_
  refine lv_aload_n hx hb dL_law_844 rfl (lv_at hl 0 rfl) ?_
  refine lv_iload_n hx hb dL_law_845 rfl (lv_at hl 3 rfl) ?_
  refine lv_iconst (v := 1) hx hb dL_law_846 (by decide) ?_
  refine lv_iadd hx hb dL_law_847 ?_
  rw [show nI i + (1 : Int32) = nI (i + 1) from nI_add i 1]
  refine og_sld (j := i + 1) (v := (xs (i + 1))) hx hb hX hbl hbA hS (by omega) (by omega) rfl dL_law_848 ?_
  refine og_ciP (og_runV (C := RX4) (T := TX4) (N := 19) (g := 10) (i := 0) (As := [.int (xs (i + 1))]) (rest := [.int (fX3_part_0 st (xs (i + 1)))]) ⟨hx, hb, hml, hown, hts⟩ (kX4_part_0 l D ca ad A st (xs (i + 1)) hq h50 h52) (cwV 1 hts gL_law_X4_part rfl rfl rfl (by decide +kernel) ⟨Nat.le_of_ble_eq_true rfl, Nat.le_of_ble_eq_true rfl⟩) hC hP hS (ow_q10_0) rfl rfl rfl hl.1 rfl (Nat.le_of_ble_eq_true rfl) dL_law_849 ⟨Nat.le_refl _, Nat.le_refl _⟩) hS (fun H locs hP hS => ?_)
  refine lv_icmp_eq (tgt := 990) hx hb dL_law_852 (by decide) (fun _ => ?_) (fun c => absurd (eq_part_0 h (xs (i + 1)) hp) c)
  exact K _ _ _ ls h hP hS hl

set_option maxHeartbeats 4000000 in
set_option maxRecDepth 100000 in
theorem lawc_16_1 {p : Program} {l : Launch} {e : Env} {s : State} {m : MethodId} {below : List Frame} {meth : Method} {c : Code} {D : va_G} {ca : Nat → ClassId} {ad : ow_Ad} {b L : Nat} {xs : Nat → Int32} {Q : State → Prop} {A : Nat → Prop} (hx : p.tables.exec = Jvm.exec) (hb : c.code = cL_law) (hml : c.maxLocals = 4) (hown : s.vm.findClass RL = some m.cls) (hts : ∀ w ∈ wsL_law, w.before #[Value.ref b] s = true) (hC : ow_C D ca ad A s) (hbA : ¬ A b) (hX : va_X b L xs s s.heap) (hbl : b < s.heap.size) (hL : L ≤ 3072) {st : ow_St} {i : Nat} {H : Heap} {locs : List Loc} {ls : Array Slot} (hi : i + 6 ≤ L) (h : RLs st) (hp : st.2.2 0 = 2) (hq : st.1 61 2 = 1) (h50 : cellok (st.1 58 0) 7) (hP : va_P D vwCl (ow_ws ad (ow_c ca ad st)) H) (hS : va_S A s.heap H locs) (hl : lv_has ls 4 [(0, .ref b), (1, .ref (ad 0 0)), (2, .ref (ad 10 0)), (3, .int (nI i))]) (K : ∀ (st : ow_St) (H : Heap) (locs : List Loc) (ls : Array Slot), RLs st → va_P D vwCl (ow_ws ad (ow_c ca ad st)) H → va_S A s.heap H locs → lv_has ls 4 [(0, .ref b), (1, .ref (ad 0 0)), (2, .ref (ad 10 0)), (3, .int (nI i))] → W p l e room_1 s m #[Value.ref b] below meth c H locs 600000 7302250 Q (F0 m 990 ls [])) : W p l e room_1 s m #[Value.ref b] below meth c H locs 600000 7302250 Q (F0 m 834 ls []) := by
  refine lv_aload_n hx hb dL_law_834 rfl (lv_at hl 1 rfl) ?_
  refine lv_aload_n hx hb dL_law_835 rfl (lv_at hl 0 rfl) ?_
  refine lv_iload_n hx hb dL_law_836 rfl (lv_at hl 3 rfl) ?_
  refine lv_iconst (v := 1) hx hb dL_law_837 (by decide) ?_
  refine lv_iadd hx hb dL_law_838 ?_
  rw [show nI i + (1 : Int32) = nI (i + 1) from nI_add i 1]
  refine og_sld (j := i + 1) (v := (xs (i + 1))) hx hb hX hbl hbA hS (by omega) (by omega) rfl dL_law_839 ?_
  refine og_ciP (og_runV (C := RX3) (T := TX3) (N := 14) (g := 0) (i := 0) (As := [.int (xs (i + 1))]) (rest := []) ⟨hx, hb, hml, hown, hts⟩ (kX3_part_1 l D ca ad A st (xs (i + 1)) hp) (cwV 1 hts gL_law_X3_part rfl rfl rfl (by decide +kernel) ⟨Nat.le_of_ble_eq_true rfl, Nat.le_of_ble_eq_true rfl⟩) hC hP hS (ow_q0_0) rfl rfl rfl hl.1 rfl (Nat.le_of_ble_eq_true rfl) dL_law_840 ⟨Nat.le_refl _, Nat.le_refl _⟩) hS (fun H locs hP hS => ?_)
  refine lv_aload_n hx hb dL_law_843 rfl (lv_at hl 2 rfl) ?_
  refine lv_aload_n hx hb dL_law_844 rfl (lv_at hl 0 rfl) ?_
  refine lv_iload_n hx hb dL_law_845 rfl (lv_at hl 3 rfl) ?_
  refine lv_iconst (v := 1) hx hb dL_law_846 (by decide) ?_
  refine lv_iadd hx hb dL_law_847 ?_
  rw [show nI i + (1 : Int32) = nI (i + 1) from nI_add i 1]
  refine og_sld (j := i + 1) (v := (xs (i + 1))) hx hb hX hbl hbA hS (by omega) (by omega) rfl dL_law_848 ?_
  refine og_ciP (og_runV (C := RX4) (T := TX4) (N := 19) (g := 10) (i := 0) (As := [.int (xs (i + 1))]) (rest := [.int (fX3_part_1 st (xs (i + 1)))]) ⟨hx, hb, hml, hown, hts⟩ (kX4_part_1 l D ca ad A st (xs (i + 1)) hq h50) (cwV 1 hts gL_law_X4_part rfl rfl rfl (by decide +kernel) ⟨Nat.le_of_ble_eq_true rfl, Nat.le_of_ble_eq_true rfl⟩) hC hP hS (ow_q10_0) rfl rfl rfl hl.1 rfl (Nat.le_of_ble_eq_true rfl) dL_law_849 ⟨Nat.le_refl _, Nat.le_refl _⟩) hS (fun H locs hP hS => ?_)
  refine lv_icmp_eq (tgt := 990) hx hb dL_law_852 (by decide) (fun _ => ?_) (fun c => absurd (eq_part_1 h (xs (i + 1)) hp) c)
  exact K _ _ _ ls h hP hS hl

set_option maxHeartbeats 4000000 in
set_option maxRecDepth 100000 in
theorem lawc_17_0 {p : Program} {l : Launch} {e : Env} {s : State} {m : MethodId} {below : List Frame} {meth : Method} {c : Code} {D : va_G} {ca : Nat → ClassId} {ad : ow_Ad} {b L : Nat} {xs : Nat → Int32} {Q : State → Prop} {A : Nat → Prop} (hx : p.tables.exec = Jvm.exec) (hb : c.code = cL_law) (hml : c.maxLocals = 4) (hown : s.vm.findClass RL = some m.cls) (hts : ∀ w ∈ wsL_law, w.before #[Value.ref b] s = true) (hC : ow_C D ca ad A s) (hbA : ¬ A b) (hX : va_X b L xs s s.heap) (hbl : b < s.heap.size) (hL : L ≤ 3072) {st : ow_St} {i : Nat} {H : Heap} {locs : List Loc} {ls : Array Slot} (hi : i + 6 ≤ L) (h : RLs st) (hf1 : xs (i + 1) = 0) (hP : va_P D vwCl (ow_ws ad (ow_c ca ad st)) H) (hS : va_S A s.heap H locs) (hl : lv_has ls 4 [(0, .ref b), (1, .ref (ad 0 0)), (2, .ref (ad 10 0)), (3, .int (nI i))]) (K : ∀ (st : ow_St) (H : Heap) (locs : List Loc) (ls : Array Slot), RLs st → va_P D vwCl (ow_ws ad (ow_c ca ad st)) H → va_S A s.heap H locs → lv_has ls 4 [(0, .ref b), (1, .ref (ad 0 0)), (2, .ref (ad 10 0)), (3, .int (nI i))] → W p l e room_1 s m #[Value.ref b] below meth c H locs 600000 7302250 Q (F0 m 990 ls [])) : W p l e room_1 s m #[Value.ref b] below meth c H locs 600000 7302250 Q (F0 m 857 ls []) := by
  refine lv_aload_n hx hb dL_law_857 rfl (lv_at hl 1 rfl) ?_
  refine lv_aload_n hx hb dL_law_858 rfl (lv_at hl 0 rfl) ?_
  refine lv_iload_n hx hb dL_law_859 rfl (lv_at hl 3 rfl) ?_
  refine lv_iconst (v := 1) hx hb dL_law_860 (by decide) ?_
  refine lv_iadd hx hb dL_law_861 ?_
  rw [show nI i + (1 : Int32) = nI (i + 1) from nI_add i 1]
  refine og_sld (j := i + 1) (v := 0) hx hb hX hbl hbA hS (by omega) (by omega) hf1 dL_law_862 ?_
  refine lv_aload_n hx hb dL_law_863 rfl (lv_at hl 0 rfl) ?_
  refine lv_iload_n hx hb dL_law_864 rfl (lv_at hl 3 rfl) ?_
  refine lv_iconst (v := 2) hx hb dL_law_865 (by decide) ?_
  refine lv_iadd hx hb dL_law_866 ?_
  rw [show nI i + (2 : Int32) = nI (i + 2) from nI_add i 2]
  refine og_sld (j := i + 2) (v := (xs (i + 2))) hx hb hX hbl hbA hS (by omega) (by omega) rfl dL_law_867 ?_
  refine lv_aload_n hx hb dL_law_868 rfl (lv_at hl 0 rfl) ?_
  refine lv_iload_n hx hb dL_law_869 rfl (lv_at hl 3 rfl) ?_
  refine lv_iconst (v := 3) hx hb dL_law_870 (by decide) ?_
  refine lv_iadd hx hb dL_law_871 ?_
  rw [show nI i + (3 : Int32) = nI (i + 3) from nI_add i 3]
  refine og_sld (j := i + 3) (v := (xs (i + 3))) hx hb hX hbl hbA hS (by omega) (by omega) rfl dL_law_872 ?_
  refine lv_aload_n hx hb dL_law_873 rfl (lv_at hl 0 rfl) ?_
  refine lv_iload_n hx hb dL_law_874 rfl (lv_at hl 3 rfl) ?_
  refine lv_iconst (v := 4) hx hb dL_law_875 (by decide) ?_
  refine lv_iadd hx hb dL_law_876 ?_
  rw [show nI i + (4 : Int32) = nI (i + 4) from nI_add i 4]
  refine og_sld (j := i + 4) (v := (xs (i + 4))) hx hb hX hbl hbA hS (by omega) (by omega) rfl dL_law_877 ?_
  refine lv_aload_n hx hb dL_law_878 rfl (lv_at hl 0 rfl) ?_
  refine lv_iload_n hx hb dL_law_879 rfl (lv_at hl 3 rfl) ?_
  refine lv_iconst (v := 5) hx hb dL_law_880 (by decide) ?_
  refine lv_iadd hx hb dL_law_881 ?_
  rw [show nI i + (5 : Int32) = nI (i + 5) from nI_add i 5]
  refine og_sld (j := i + 5) (v := (xs (i + 5))) hx hb hX hbl hbA hS (by omega) (by omega) rfl dL_law_882 ?_
  refine og_ciW (og_runV (C := RX3) (T := TX3) (N := 14) (g := 0) (i := 0) (As := [.int 0, .int (xs (i + 2)), .int (xs (i + 3)), .int (xs (i + 4)), .int (xs (i + 5))]) (rest := []) ⟨hx, hb, hml, hown, hts⟩ (kX3_filter_0 l D ca ad A st (xs (i + 2)) (xs (i + 3)) (xs (i + 4)) (xs (i + 5)) (RL_sz h (by decide)) (RL_sk h)) (cwV 5 hts gL_law_X3_filter rfl rfl rfl (by decide +kernel) ⟨Nat.le_of_ble_eq_true rfl, Nat.le_of_ble_eq_true rfl⟩) hC hP hS (ow_q0_0) rfl rfl rfl hl.1 rfl (Nat.le_of_ble_eq_true rfl) dL_law_883 ⟨Nat.le_refl _, Nat.le_refl _⟩) hS (fun H locs hP hS => ?_)
  refine lv_aload_n hx hb dL_law_886 rfl (lv_at hl 2 rfl) ?_
  refine lv_aload_n hx hb dL_law_887 rfl (lv_at hl 0 rfl) ?_
  refine lv_iload_n hx hb dL_law_888 rfl (lv_at hl 3 rfl) ?_
  refine lv_iconst (v := 1) hx hb dL_law_889 (by decide) ?_
  refine lv_iadd hx hb dL_law_890 ?_
  rw [show nI i + (1 : Int32) = nI (i + 1) from nI_add i 1]
  refine og_sld (j := i + 1) (v := 0) hx hb hX hbl hbA hS (by omega) (by omega) hf1 dL_law_891 ?_
  refine lv_aload_n hx hb dL_law_892 rfl (lv_at hl 0 rfl) ?_
  refine lv_iload_n hx hb dL_law_893 rfl (lv_at hl 3 rfl) ?_
  refine lv_iconst (v := 2) hx hb dL_law_894 (by decide) ?_
  refine lv_iadd hx hb dL_law_895 ?_
  rw [show nI i + (2 : Int32) = nI (i + 2) from nI_add i 2]
  refine og_sld (j := i + 2) (v := (xs (i + 2))) hx hb hX hbl hbA hS (by omega) (by omega) rfl dL_law_896 ?_
  refine lv_aload_n hx hb dL_law_897 rfl (lv_at hl 0 rfl) ?_
  refine lv_iload_n hx hb dL_law_898 rfl (lv_at hl 3 rfl) ?_
  refine lv_iconst (v := 3) hx hb dL_law_899 (by decide) ?_
  refine lv_iadd hx hb dL_law_900 ?_
  rw [show nI i + (3 : Int32) = nI (i + 3) from nI_add i 3]
  refine og_sld (j := i + 3) (v := (xs (i + 3))) hx hb hX hbl hbA hS (by omega) (by omega) rfl dL_law_901 ?_
  refine lv_aload_n hx hb dL_law_902 rfl (lv_at hl 0 rfl) ?_
  refine lv_iload_n hx hb dL_law_903 rfl (lv_at hl 3 rfl) ?_
  refine lv_iconst (v := 4) hx hb dL_law_904 (by decide) ?_
  refine lv_iadd hx hb dL_law_905 ?_
  rw [show nI i + (4 : Int32) = nI (i + 4) from nI_add i 4]
  refine og_sld (j := i + 4) (v := (xs (i + 4))) hx hb hX hbl hbA hS (by omega) (by omega) rfl dL_law_906 ?_
  refine lv_aload_n hx hb dL_law_907 rfl (lv_at hl 0 rfl) ?_
  refine lv_iload_n hx hb dL_law_908 rfl (lv_at hl 3 rfl) ?_
  refine lv_iconst (v := 5) hx hb dL_law_909 (by decide) ?_
  refine lv_iadd hx hb dL_law_910 ?_
  rw [show nI i + (5 : Int32) = nI (i + 5) from nI_add i 5]
  refine og_sld (j := i + 5) (v := (xs (i + 5))) hx hb hX hbl hbA hS (by omega) (by omega) rfl dL_law_911 ?_
  refine og_ciW (og_runV (C := RX4) (T := TX4) (N := 19) (g := 10) (i := 0) (As := [.int 0, .int (xs (i + 2)), .int (xs (i + 3)), .int (xs (i + 4)), .int (xs (i + 5))]) (rest := [.int ((fX3_filter_0 st (xs (i + 2)) (xs (i + 3)) (xs (i + 4)) (xs (i + 5))).1)]) ⟨hx, hb, hml, hown, hts⟩ (kX4_filter_0 l D ca ad A (fX3_filter_0 st (xs (i + 2)) (xs (i + 3)) (xs (i + 4)) (xs (i + 5))).2 (xs (i + 2)) (xs (i + 3)) (xs (i + 4)) (xs (i + 5)) ((MOK_of (RL_mok h) (mk_filter_0 h (xs (i + 2)) (xs (i + 3)) (xs (i + 4)) (xs (i + 5)))).2.2.1 0 (by decide)) (MOK_of (RL_mok h) (mk_filter_0 h (xs (i + 2)) (xs (i + 3)) (xs (i + 4)) (xs (i + 5)))).2.2.2.2) (cwV 5 hts gL_law_X4_filter rfl rfl rfl (by decide +kernel) ⟨Nat.le_of_ble_eq_true rfl, Nat.le_of_ble_eq_true rfl⟩) hC hP hS (ow_q10_0) rfl rfl rfl hl.1 rfl (Nat.le_of_ble_eq_true rfl) dL_law_912 ⟨Nat.le_refl _, Nat.le_refl _⟩) hS (fun H locs hP hS => ?_)
  refine lv_icmp_eq (tgt := 990) hx hb dL_law_915 (by decide) (fun _ => ?_) (fun c => absurd ((eq_filter_0 h (xs (i + 2)) (xs (i + 3)) (xs (i + 4)) (xs (i + 5))).1) c)
  exact K _ _ _ ls (eq_filter_0 h (xs (i + 2)) (xs (i + 3)) (xs (i + 4)) (xs (i + 5))).2 hP hS hl

set_option maxHeartbeats 4000000 in
set_option maxRecDepth 100000 in
theorem lawc_17_1 {p : Program} {l : Launch} {e : Env} {s : State} {m : MethodId} {below : List Frame} {meth : Method} {c : Code} {D : va_G} {ca : Nat → ClassId} {ad : ow_Ad} {b L : Nat} {xs : Nat → Int32} {Q : State → Prop} {A : Nat → Prop} (hx : p.tables.exec = Jvm.exec) (hb : c.code = cL_law) (hml : c.maxLocals = 4) (hown : s.vm.findClass RL = some m.cls) (hts : ∀ w ∈ wsL_law, w.before #[Value.ref b] s = true) (hC : ow_C D ca ad A s) (hbA : ¬ A b) (hX : va_X b L xs s s.heap) (hbl : b < s.heap.size) (hL : L ≤ 3072) {st : ow_St} {i : Nat} {H : Heap} {locs : List Loc} {ls : Array Slot} (hi : i + 6 ≤ L) (h : RLs st) (hf1 : xs (i + 1) = 1) (hP : va_P D vwCl (ow_ws ad (ow_c ca ad st)) H) (hS : va_S A s.heap H locs) (hl : lv_has ls 4 [(0, .ref b), (1, .ref (ad 0 0)), (2, .ref (ad 10 0)), (3, .int (nI i))]) (K : ∀ (st : ow_St) (H : Heap) (locs : List Loc) (ls : Array Slot), RLs st → va_P D vwCl (ow_ws ad (ow_c ca ad st)) H → va_S A s.heap H locs → lv_has ls 4 [(0, .ref b), (1, .ref (ad 0 0)), (2, .ref (ad 10 0)), (3, .int (nI i))] → W p l e room_1 s m #[Value.ref b] below meth c H locs 600000 7302250 Q (F0 m 990 ls [])) : W p l e room_1 s m #[Value.ref b] below meth c H locs 600000 7302250 Q (F0 m 857 ls []) := by
  refine lv_aload_n hx hb dL_law_857 rfl (lv_at hl 1 rfl) ?_
  refine lv_aload_n hx hb dL_law_858 rfl (lv_at hl 0 rfl) ?_
  refine lv_iload_n hx hb dL_law_859 rfl (lv_at hl 3 rfl) ?_
  refine lv_iconst (v := 1) hx hb dL_law_860 (by decide) ?_
  refine lv_iadd hx hb dL_law_861 ?_
  rw [show nI i + (1 : Int32) = nI (i + 1) from nI_add i 1]
  refine og_sld (j := i + 1) (v := 1) hx hb hX hbl hbA hS (by omega) (by omega) hf1 dL_law_862 ?_
  refine lv_aload_n hx hb dL_law_863 rfl (lv_at hl 0 rfl) ?_
  refine lv_iload_n hx hb dL_law_864 rfl (lv_at hl 3 rfl) ?_
  refine lv_iconst (v := 2) hx hb dL_law_865 (by decide) ?_
  refine lv_iadd hx hb dL_law_866 ?_
  rw [show nI i + (2 : Int32) = nI (i + 2) from nI_add i 2]
  refine og_sld (j := i + 2) (v := (xs (i + 2))) hx hb hX hbl hbA hS (by omega) (by omega) rfl dL_law_867 ?_
  refine lv_aload_n hx hb dL_law_868 rfl (lv_at hl 0 rfl) ?_
  refine lv_iload_n hx hb dL_law_869 rfl (lv_at hl 3 rfl) ?_
  refine lv_iconst (v := 3) hx hb dL_law_870 (by decide) ?_
  refine lv_iadd hx hb dL_law_871 ?_
  rw [show nI i + (3 : Int32) = nI (i + 3) from nI_add i 3]
  refine og_sld (j := i + 3) (v := (xs (i + 3))) hx hb hX hbl hbA hS (by omega) (by omega) rfl dL_law_872 ?_
  refine lv_aload_n hx hb dL_law_873 rfl (lv_at hl 0 rfl) ?_
  refine lv_iload_n hx hb dL_law_874 rfl (lv_at hl 3 rfl) ?_
  refine lv_iconst (v := 4) hx hb dL_law_875 (by decide) ?_
  refine lv_iadd hx hb dL_law_876 ?_
  rw [show nI i + (4 : Int32) = nI (i + 4) from nI_add i 4]
  refine og_sld (j := i + 4) (v := (xs (i + 4))) hx hb hX hbl hbA hS (by omega) (by omega) rfl dL_law_877 ?_
  refine lv_aload_n hx hb dL_law_878 rfl (lv_at hl 0 rfl) ?_
  refine lv_iload_n hx hb dL_law_879 rfl (lv_at hl 3 rfl) ?_
  refine lv_iconst (v := 5) hx hb dL_law_880 (by decide) ?_
  refine lv_iadd hx hb dL_law_881 ?_
  rw [show nI i + (5 : Int32) = nI (i + 5) from nI_add i 5]
  refine og_sld (j := i + 5) (v := (xs (i + 5))) hx hb hX hbl hbA hS (by omega) (by omega) rfl dL_law_882 ?_
  refine og_ciW (og_runV (C := RX3) (T := TX3) (N := 14) (g := 0) (i := 0) (As := [.int 1, .int (xs (i + 2)), .int (xs (i + 3)), .int (xs (i + 4)), .int (xs (i + 5))]) (rest := []) ⟨hx, hb, hml, hown, hts⟩ (kX3_filter_1 l D ca ad A st (xs (i + 2)) (xs (i + 3)) (xs (i + 4)) (xs (i + 5)) (RL_sz h (by decide)) (RL_sk h)) (cwV 5 hts gL_law_X3_filter rfl rfl rfl (by decide +kernel) ⟨Nat.le_of_ble_eq_true rfl, Nat.le_of_ble_eq_true rfl⟩) hC hP hS (ow_q0_0) rfl rfl rfl hl.1 rfl (Nat.le_of_ble_eq_true rfl) dL_law_883 ⟨Nat.le_refl _, Nat.le_refl _⟩) hS (fun H locs hP hS => ?_)
  refine lv_aload_n hx hb dL_law_886 rfl (lv_at hl 2 rfl) ?_
  refine lv_aload_n hx hb dL_law_887 rfl (lv_at hl 0 rfl) ?_
  refine lv_iload_n hx hb dL_law_888 rfl (lv_at hl 3 rfl) ?_
  refine lv_iconst (v := 1) hx hb dL_law_889 (by decide) ?_
  refine lv_iadd hx hb dL_law_890 ?_
  rw [show nI i + (1 : Int32) = nI (i + 1) from nI_add i 1]
  refine og_sld (j := i + 1) (v := 1) hx hb hX hbl hbA hS (by omega) (by omega) hf1 dL_law_891 ?_
  refine lv_aload_n hx hb dL_law_892 rfl (lv_at hl 0 rfl) ?_
  refine lv_iload_n hx hb dL_law_893 rfl (lv_at hl 3 rfl) ?_
  refine lv_iconst (v := 2) hx hb dL_law_894 (by decide) ?_
  refine lv_iadd hx hb dL_law_895 ?_
  rw [show nI i + (2 : Int32) = nI (i + 2) from nI_add i 2]
  refine og_sld (j := i + 2) (v := (xs (i + 2))) hx hb hX hbl hbA hS (by omega) (by omega) rfl dL_law_896 ?_
  refine lv_aload_n hx hb dL_law_897 rfl (lv_at hl 0 rfl) ?_
  refine lv_iload_n hx hb dL_law_898 rfl (lv_at hl 3 rfl) ?_
  refine lv_iconst (v := 3) hx hb dL_law_899 (by decide) ?_
  refine lv_iadd hx hb dL_law_900 ?_
  rw [show nI i + (3 : Int32) = nI (i + 3) from nI_add i 3]
  refine og_sld (j := i + 3) (v := (xs (i + 3))) hx hb hX hbl hbA hS (by omega) (by omega) rfl dL_law_901 ?_
  refine lv_aload_n hx hb dL_law_902 rfl (lv_at hl 0 rfl) ?_
  refine lv_iload_n hx hb dL_law_903 rfl (lv_at hl 3 rfl) ?_
  refine lv_iconst (v := 4) hx hb dL_law_904 (by decide) ?_
  refine lv_iadd hx hb dL_law_905 ?_
  rw [show nI i + (4 : Int32) = nI (i + 4) from nI_add i 4]
  refine og_sld (j := i + 4) (v := (xs (i + 4))) hx hb hX hbl hbA hS (by omega) (by omega) rfl dL_law_906 ?_
  refine lv_aload_n hx hb dL_law_907 rfl (lv_at hl 0 rfl) ?_
  refine lv_iload_n hx hb dL_law_908 rfl (lv_at hl 3 rfl) ?_
  refine lv_iconst (v := 5) hx hb dL_law_909 (by decide) ?_
  refine lv_iadd hx hb dL_law_910 ?_
  rw [show nI i + (5 : Int32) = nI (i + 5) from nI_add i 5]
  refine og_sld (j := i + 5) (v := (xs (i + 5))) hx hb hX hbl hbA hS (by omega) (by omega) rfl dL_law_911 ?_
  refine og_ciW (og_runV (C := RX4) (T := TX4) (N := 19) (g := 10) (i := 0) (As := [.int 1, .int (xs (i + 2)), .int (xs (i + 3)), .int (xs (i + 4)), .int (xs (i + 5))]) (rest := [.int ((fX3_filter_1 st (xs (i + 2)) (xs (i + 3)) (xs (i + 4)) (xs (i + 5))).1)]) ⟨hx, hb, hml, hown, hts⟩ (kX4_filter_1 l D ca ad A (fX3_filter_1 st (xs (i + 2)) (xs (i + 3)) (xs (i + 4)) (xs (i + 5))).2 (xs (i + 2)) (xs (i + 3)) (xs (i + 4)) (xs (i + 5)) ((MOK_of (RL_mok h) (mk_filter_1 h (xs (i + 2)) (xs (i + 3)) (xs (i + 4)) (xs (i + 5)))).2.2.1 1 (by decide)) (MOK_of (RL_mok h) (mk_filter_1 h (xs (i + 2)) (xs (i + 3)) (xs (i + 4)) (xs (i + 5)))).2.2.2.2) (cwV 5 hts gL_law_X4_filter rfl rfl rfl (by decide +kernel) ⟨Nat.le_of_ble_eq_true rfl, Nat.le_of_ble_eq_true rfl⟩) hC hP hS (ow_q10_0) rfl rfl rfl hl.1 rfl (Nat.le_of_ble_eq_true rfl) dL_law_912 ⟨Nat.le_refl _, Nat.le_refl _⟩) hS (fun H locs hP hS => ?_)
  refine lv_icmp_eq (tgt := 990) hx hb dL_law_915 (by decide) (fun _ => ?_) (fun c => absurd ((eq_filter_1 h (xs (i + 2)) (xs (i + 3)) (xs (i + 4)) (xs (i + 5))).1) c)
  exact K _ _ _ ls (eq_filter_1 h (xs (i + 2)) (xs (i + 3)) (xs (i + 4)) (xs (i + 5))).2 hP hS hl

set_option maxHeartbeats 4000000 in
set_option maxRecDepth 100000 in
theorem lawc_17_n {p : Program} {l : Launch} {e : Env} {s : State} {m : MethodId} {below : List Frame} {meth : Method} {c : Code} {D : va_G} {ca : Nat → ClassId} {ad : ow_Ad} {b L : Nat} {xs : Nat → Int32} {Q : State → Prop} {A : Nat → Prop} (hx : p.tables.exec = Jvm.exec) (hb : c.code = cL_law) (hml : c.maxLocals = 4) (hown : s.vm.findClass RL = some m.cls) (hts : ∀ w ∈ wsL_law, w.before #[Value.ref b] s = true) (hC : ow_C D ca ad A s) (hbA : ¬ A b) (hX : va_X b L xs s s.heap) (hbl : b < s.heap.size) (hL : L ≤ 3072) {st : ow_St} {i : Nat} {H : Heap} {locs : List Loc} {ls : Array Slot} (hi : i + 6 ≤ L) (h : RLs st) (hn0 : ¬ xs (i + 1) = 0) (hn1 : ¬ xs (i + 1) = 1) (hP : va_P D vwCl (ow_ws ad (ow_c ca ad st)) H) (hS : va_S A s.heap H locs) (hl : lv_has ls 4 [(0, .ref b), (1, .ref (ad 0 0)), (2, .ref (ad 10 0)), (3, .int (nI i))]) (K : ∀ (st : ow_St) (H : Heap) (locs : List Loc) (ls : Array Slot), RLs st → va_P D vwCl (ow_ws ad (ow_c ca ad st)) H → va_S A s.heap H locs → lv_has ls 4 [(0, .ref b), (1, .ref (ad 0 0)), (2, .ref (ad 10 0)), (3, .int (nI i))] → W p l e room_1 s m #[Value.ref b] below meth c H locs 600000 7302250 Q (F0 m 990 ls [])) : W p l e room_1 s m #[Value.ref b] below meth c H locs 600000 7302250 Q (F0 m 857 ls []) := by
  refine lv_aload_n hx hb dL_law_857 rfl (lv_at hl 1 rfl) ?_
  refine lv_aload_n hx hb dL_law_858 rfl (lv_at hl 0 rfl) ?_
  refine lv_iload_n hx hb dL_law_859 rfl (lv_at hl 3 rfl) ?_
  refine lv_iconst (v := 1) hx hb dL_law_860 (by decide) ?_
  refine lv_iadd hx hb dL_law_861 ?_
  rw [show nI i + (1 : Int32) = nI (i + 1) from nI_add i 1]
  refine og_sld (j := i + 1) (v := (xs (i + 1))) hx hb hX hbl hbA hS (by omega) (by omega) rfl dL_law_862 ?_
  refine lv_aload_n hx hb dL_law_863 rfl (lv_at hl 0 rfl) ?_
  refine lv_iload_n hx hb dL_law_864 rfl (lv_at hl 3 rfl) ?_
  refine lv_iconst (v := 2) hx hb dL_law_865 (by decide) ?_
  refine lv_iadd hx hb dL_law_866 ?_
  rw [show nI i + (2 : Int32) = nI (i + 2) from nI_add i 2]
  refine og_sld (j := i + 2) (v := (xs (i + 2))) hx hb hX hbl hbA hS (by omega) (by omega) rfl dL_law_867 ?_
  refine lv_aload_n hx hb dL_law_868 rfl (lv_at hl 0 rfl) ?_
  refine lv_iload_n hx hb dL_law_869 rfl (lv_at hl 3 rfl) ?_
  refine lv_iconst (v := 3) hx hb dL_law_870 (by decide) ?_
  refine lv_iadd hx hb dL_law_871 ?_
  rw [show nI i + (3 : Int32) = nI (i + 3) from nI_add i 3]
  refine og_sld (j := i + 3) (v := (xs (i + 3))) hx hb hX hbl hbA hS (by omega) (by omega) rfl dL_law_872 ?_
  refine lv_aload_n hx hb dL_law_873 rfl (lv_at hl 0 rfl) ?_
  refine lv_iload_n hx hb dL_law_874 rfl (lv_at hl 3 rfl) ?_
  refine lv_iconst (v := 4) hx hb dL_law_875 (by decide) ?_
  refine lv_iadd hx hb dL_law_876 ?_
  rw [show nI i + (4 : Int32) = nI (i + 4) from nI_add i 4]
  refine og_sld (j := i + 4) (v := (xs (i + 4))) hx hb hX hbl hbA hS (by omega) (by omega) rfl dL_law_877 ?_
  refine lv_aload_n hx hb dL_law_878 rfl (lv_at hl 0 rfl) ?_
  refine lv_iload_n hx hb dL_law_879 rfl (lv_at hl 3 rfl) ?_
  refine lv_iconst (v := 5) hx hb dL_law_880 (by decide) ?_
  refine lv_iadd hx hb dL_law_881 ?_
  rw [show nI i + (5 : Int32) = nI (i + 5) from nI_add i 5]
  refine og_sld (j := i + 5) (v := (xs (i + 5))) hx hb hX hbl hbA hS (by omega) (by omega) rfl dL_law_882 ?_
  refine og_ciW (og_runV (C := RX3) (T := TX3) (N := 14) (g := 0) (i := 0) (As := [.int (xs (i + 1)), .int (xs (i + 2)), .int (xs (i + 3)), .int (xs (i + 4)), .int (xs (i + 5))]) (rest := []) ⟨hx, hb, hml, hown, hts⟩ (kX3_filter_n l D ca ad A st (xs (i + 1)) (xs (i + 2)) (xs (i + 3)) (xs (i + 4)) (xs (i + 5)) hn0 hn1) (cwV 5 hts gL_law_X3_filter rfl rfl rfl (by decide +kernel) ⟨Nat.le_of_ble_eq_true rfl, Nat.le_of_ble_eq_true rfl⟩) hC hP hS (ow_q0_0) rfl rfl rfl hl.1 rfl (Nat.le_of_ble_eq_true rfl) dL_law_883 ⟨Nat.le_refl _, Nat.le_refl _⟩) hS (fun H locs hP hS => ?_)
  refine lv_aload_n hx hb dL_law_886 rfl (lv_at hl 2 rfl) ?_
  refine lv_aload_n hx hb dL_law_887 rfl (lv_at hl 0 rfl) ?_
  refine lv_iload_n hx hb dL_law_888 rfl (lv_at hl 3 rfl) ?_
  refine lv_iconst (v := 1) hx hb dL_law_889 (by decide) ?_
  refine lv_iadd hx hb dL_law_890 ?_
  rw [show nI i + (1 : Int32) = nI (i + 1) from nI_add i 1]
  refine og_sld (j := i + 1) (v := (xs (i + 1))) hx hb hX hbl hbA hS (by omega) (by omega) rfl dL_law_891 ?_
  refine lv_aload_n hx hb dL_law_892 rfl (lv_at hl 0 rfl) ?_
  refine lv_iload_n hx hb dL_law_893 rfl (lv_at hl 3 rfl) ?_
  refine lv_iconst (v := 2) hx hb dL_law_894 (by decide) ?_
  refine lv_iadd hx hb dL_law_895 ?_
  rw [show nI i + (2 : Int32) = nI (i + 2) from nI_add i 2]
  refine og_sld (j := i + 2) (v := (xs (i + 2))) hx hb hX hbl hbA hS (by omega) (by omega) rfl dL_law_896 ?_
  refine lv_aload_n hx hb dL_law_897 rfl (lv_at hl 0 rfl) ?_
  refine lv_iload_n hx hb dL_law_898 rfl (lv_at hl 3 rfl) ?_
  refine lv_iconst (v := 3) hx hb dL_law_899 (by decide) ?_
  refine lv_iadd hx hb dL_law_900 ?_
  rw [show nI i + (3 : Int32) = nI (i + 3) from nI_add i 3]
  refine og_sld (j := i + 3) (v := (xs (i + 3))) hx hb hX hbl hbA hS (by omega) (by omega) rfl dL_law_901 ?_
  refine lv_aload_n hx hb dL_law_902 rfl (lv_at hl 0 rfl) ?_
  refine lv_iload_n hx hb dL_law_903 rfl (lv_at hl 3 rfl) ?_
  refine lv_iconst (v := 4) hx hb dL_law_904 (by decide) ?_
  refine lv_iadd hx hb dL_law_905 ?_
  rw [show nI i + (4 : Int32) = nI (i + 4) from nI_add i 4]
  refine og_sld (j := i + 4) (v := (xs (i + 4))) hx hb hX hbl hbA hS (by omega) (by omega) rfl dL_law_906 ?_
  refine lv_aload_n hx hb dL_law_907 rfl (lv_at hl 0 rfl) ?_
  refine lv_iload_n hx hb dL_law_908 rfl (lv_at hl 3 rfl) ?_
  refine lv_iconst (v := 5) hx hb dL_law_909 (by decide) ?_
  refine lv_iadd hx hb dL_law_910 ?_
  rw [show nI i + (5 : Int32) = nI (i + 5) from nI_add i 5]
  refine og_sld (j := i + 5) (v := (xs (i + 5))) hx hb hX hbl hbA hS (by omega) (by omega) rfl dL_law_911 ?_
  refine og_ciW (og_runV (C := RX4) (T := TX4) (N := 19) (g := 10) (i := 0) (As := [.int (xs (i + 1)), .int (xs (i + 2)), .int (xs (i + 3)), .int (xs (i + 4)), .int (xs (i + 5))]) (rest := [.int ((fX3_filter_n st (xs (i + 1)) (xs (i + 2)) (xs (i + 3)) (xs (i + 4)) (xs (i + 5))).1)]) ⟨hx, hb, hml, hown, hts⟩ (kX4_filter_n l D ca ad A (fX3_filter_n st (xs (i + 1)) (xs (i + 2)) (xs (i + 3)) (xs (i + 4)) (xs (i + 5))).2 (xs (i + 1)) (xs (i + 2)) (xs (i + 3)) (xs (i + 4)) (xs (i + 5)) hn0 hn1) (cwV 5 hts gL_law_X4_filter rfl rfl rfl (by decide +kernel) ⟨Nat.le_of_ble_eq_true rfl, Nat.le_of_ble_eq_true rfl⟩) hC hP hS (ow_q10_0) rfl rfl rfl hl.1 rfl (Nat.le_of_ble_eq_true rfl) dL_law_912 ⟨Nat.le_refl _, Nat.le_refl _⟩) hS (fun H locs hP hS => ?_)
  refine lv_icmp_eq (tgt := 990) hx hb dL_law_915 (by decide) (fun _ => ?_) (fun c => absurd ((eq_filter_n h (xs (i + 1)) (xs (i + 2)) (xs (i + 3)) (xs (i + 4)) (xs (i + 5)) hn0 hn1).1) c)
  exact K _ _ _ ls (eq_filter_n h (xs (i + 1)) (xs (i + 2)) (xs (i + 3)) (xs (i + 4)) (xs (i + 5)) hn0 hn1).2 hP hS hl

set_option maxHeartbeats 4000000 in
set_option maxRecDepth 100000 in
theorem lawc_18 {p : Program} {l : Launch} {e : Env} {s : State} {m : MethodId} {below : List Frame} {meth : Method} {c : Code} {D : va_G} {ca : Nat → ClassId} {ad : ow_Ad} {b L : Nat} {xs : Nat → Int32} {Q : State → Prop} {A : Nat → Prop} (hx : p.tables.exec = Jvm.exec) (hb : c.code = cL_law) (hml : c.maxLocals = 4) (hown : s.vm.findClass RL = some m.cls) (hts : ∀ w ∈ wsL_law, w.before #[Value.ref b] s = true) (hC : ow_C D ca ad A s) (hbA : ¬ A b) (hX : va_X b L xs s s.heap) (hbl : b < s.heap.size) (hL : L ≤ 3072) {st : ow_St} {i : Nat} {H : Heap} {locs : List Loc} {ls : Array Slot} (hi : i + 6 ≤ L) (h : RLs st)  (hP : va_P D vwCl (ow_ws ad (ow_c ca ad st)) H) (hS : va_S A s.heap H locs) (hl : lv_has ls 4 [(0, .ref b), (1, .ref (ad 0 0)), (2, .ref (ad 10 0)), (3, .int (nI i))]) (K : ∀ (st : ow_St) (H : Heap) (locs : List Loc) (ls : Array Slot), RLs st → va_P D vwCl (ow_ws ad (ow_c ca ad st)) H → va_S A s.heap H locs → lv_has ls 4 [(0, .ref b), (1, .ref (ad 0 0)), (2, .ref (ad 10 0)), (3, .int (nI i))] → W p l e room_1 s m #[Value.ref b] below meth c H locs 600000 7302250 Q (F0 m 990 ls [])) : W p l e room_1 s m #[Value.ref b] below meth c H locs 600000 7302250 Q (F0 m 920 ls []) := by
  refine lv_aload_n hx hb dL_law_920 rfl (lv_at hl 1 rfl) ?_
  refine lv_aload_n hx hb dL_law_921 rfl (lv_at hl 0 rfl) ?_
  refine lv_iload_n hx hb dL_law_922 rfl (lv_at hl 3 rfl) ?_
  refine lv_iconst (v := 1) hx hb dL_law_923 (by decide) ?_
  refine lv_iadd hx hb dL_law_924 ?_
  rw [show nI i + (1 : Int32) = nI (i + 1) from nI_add i 1]
  refine og_sld (j := i + 1) (v := (xs (i + 1))) hx hb hX hbl hbA hS (by omega) (by omega) rfl dL_law_925 ?_
  refine og_ciP (og_runV (C := RX3) (T := TX3) (N := 14) (g := 0) (i := 0) (As := [.int (xs (i + 1))]) (rest := []) ⟨hx, hb, hml, hown, hts⟩ (kX3_found l D ca ad A st (xs (i + 1)) (RL_fs h)) (cwV 1 hts gL_law_X3_found rfl rfl rfl (by decide +kernel) ⟨Nat.le_of_ble_eq_true rfl, Nat.le_of_ble_eq_true rfl⟩) hC hP hS (ow_q0_0) rfl rfl rfl hl.1 rfl (Nat.le_of_ble_eq_true rfl) dL_law_926 ⟨Nat.le_refl _, Nat.le_refl _⟩) hS (fun H locs hP hS => ?_)
  refine lv_aload_n hx hb dL_law_929 rfl (lv_at hl 2 rfl) ?_
  refine lv_aload_n hx hb dL_law_930 rfl (lv_at hl 0 rfl) ?_
  refine lv_iload_n hx hb dL_law_931 rfl (lv_at hl 3 rfl) ?_
  refine lv_iconst (v := 1) hx hb dL_law_932 (by decide) ?_
  refine lv_iadd hx hb dL_law_933 ?_
  rw [show nI i + (1 : Int32) = nI (i + 1) from nI_add i 1]
  refine og_sld (j := i + 1) (v := (xs (i + 1))) hx hb hX hbl hbA hS (by omega) (by omega) rfl dL_law_934 ?_
  refine og_ciP (og_runV (C := RX4) (T := TX4) (N := 19) (g := 10) (i := 0) (As := [.int (xs (i + 1))]) (rest := [.int (fX3_found st (xs (i + 1)))]) ⟨hx, hb, hml, hown, hts⟩ (kX4_found l D ca ad A st (xs (i + 1)) (RL_mok h).2.2.2.1) (cwV 1 hts gL_law_X4_found rfl rfl rfl (by decide +kernel) ⟨Nat.le_of_ble_eq_true rfl, Nat.le_of_ble_eq_true rfl⟩) hC hP hS (ow_q10_0) rfl rfl rfl hl.1 rfl (Nat.le_of_ble_eq_true rfl) dL_law_935 ⟨Nat.le_refl _, Nat.le_refl _⟩) hS (fun H locs hP hS => ?_)
  refine lv_icmp_eq (tgt := 990) hx hb dL_law_938 (by decide) (fun _ => ?_) (fun c => absurd (eq_found h (xs (i + 1))) c)
  exact K _ _ _ ls h hP hS hl

set_option maxHeartbeats 4000000 in
set_option maxRecDepth 100000 in
theorem lawc_19_0 {p : Program} {l : Launch} {e : Env} {s : State} {m : MethodId} {below : List Frame} {meth : Method} {c : Code} {D : va_G} {ca : Nat → ClassId} {ad : ow_Ad} {b L : Nat} {xs : Nat → Int32} {Q : State → Prop} {A : Nat → Prop} (hx : p.tables.exec = Jvm.exec) (hb : c.code = cL_law) (hml : c.maxLocals = 4) (hown : s.vm.findClass RL = some m.cls) (hts : ∀ w ∈ wsL_law, w.before #[Value.ref b] s = true) (hC : ow_C D ca ad A s) (hbA : ¬ A b) (hX : va_X b L xs s s.heap) (hbl : b < s.heap.size) (hL : L ≤ 3072) {st : ow_St} {i : Nat} {H : Heap} {locs : List Loc} {ls : Array Slot} (hi : i + 6 ≤ L) (h : RLs st) (hf1 : xs (i + 1) = 0) (hP : va_P D vwCl (ow_ws ad (ow_c ca ad st)) H) (hS : va_S A s.heap H locs) (hl : lv_has ls 4 [(0, .ref b), (1, .ref (ad 0 0)), (2, .ref (ad 10 0)), (3, .int (nI i))]) (K : ∀ (st : ow_St) (H : Heap) (locs : List Loc) (ls : Array Slot), RLs st → va_P D vwCl (ow_ws ad (ow_c ca ad st)) H → va_S A s.heap H locs → lv_has ls 4 [(0, .ref b), (1, .ref (ad 0 0)), (2, .ref (ad 10 0)), (3, .int (nI i))] → W p l e room_1 s m #[Value.ref b] below meth c H locs 600000 7302250 Q (F0 m 990 ls [])) : W p l e room_1 s m #[Value.ref b] below meth c H locs 600000 7302250 Q (F0 m 943 ls []) := by
  refine lv_aload_n hx hb dL_law_943 rfl (lv_at hl 1 rfl) ?_
  refine lv_aload_n hx hb dL_law_944 rfl (lv_at hl 0 rfl) ?_
  refine lv_iload_n hx hb dL_law_945 rfl (lv_at hl 3 rfl) ?_
  refine lv_iconst (v := 1) hx hb dL_law_946 (by decide) ?_
  refine lv_iadd hx hb dL_law_947 ?_
  rw [show nI i + (1 : Int32) = nI (i + 1) from nI_add i 1]
  refine og_sld (j := i + 1) (v := 0) hx hb hX hbl hbA hS (by omega) (by omega) hf1 dL_law_948 ?_
  refine og_clW (og_runV (C := RX3) (T := TX3) (N := 14) (g := 0) (i := 0) (As := [.int 0]) (rest := []) ⟨hx, hb, hml, hown, hts⟩ (kX3_sum_0 l D ca ad A st (RL_sz h (by decide))) (cwV 1 hts gL_law_X3_sum rfl rfl rfl (by decide +kernel) ⟨Nat.le_of_ble_eq_true rfl, Nat.le_of_ble_eq_true rfl⟩) hC hP hS (ow_q0_0) rfl rfl rfl hl.1 rfl (Nat.le_of_ble_eq_true rfl) dL_law_949 ⟨Nat.le_refl _, Nat.le_refl _⟩) hS (fun H locs hP hS => ?_)
  refine lv_aload_n hx hb dL_law_952 rfl (lv_at hl 2 rfl) ?_
  refine lv_aload_n hx hb dL_law_953 rfl (lv_at hl 0 rfl) ?_
  refine lv_iload_n hx hb dL_law_954 rfl (lv_at hl 3 rfl) ?_
  refine lv_iconst (v := 1) hx hb dL_law_955 (by decide) ?_
  refine lv_iadd hx hb dL_law_956 ?_
  rw [show nI i + (1 : Int32) = nI (i + 1) from nI_add i 1]
  refine og_sld (j := i + 1) (v := 0) hx hb hX hbl hbA hS (by omega) (by omega) hf1 dL_law_957 ?_
  refine og_clW (og_runV (C := RX4) (T := TX4) (N := 19) (g := 10) (i := 0) (As := [.int 0]) (rest := [.long ((fX3_sum_0 st).1)]) ⟨hx, hb, hml, hown, hts⟩ (kX4_sum_0 l D ca ad A (fX3_sum_0 st).2 ((MOK_of (RL_mok h) (mk_sum_0 h )).2.2.1 0 (by decide))) (cwV 1 hts gL_law_X4_sum rfl rfl rfl (by decide +kernel) ⟨Nat.le_of_ble_eq_true rfl, Nat.le_of_ble_eq_true rfl⟩) hC hP hS (ow_q10_0) rfl rfl rfl hl.1 rfl (Nat.le_of_ble_eq_true rfl) dL_law_958 ⟨Nat.le_refl _, Nat.le_refl _⟩) hS (fun H locs hP hS => ?_)
  refine W.lcmp hx hb dL_law_961 ?_
  refine lv_if_eq (tgt := 990) hx hb dL_law_962 (by decide) (fun _ => ?_) (fun c => absurd ((lg_cmp_eq _ _).mpr ((eq_sum_0 h ).1)) c)
  exact K _ _ _ ls (eq_sum_0 h ).2 hP hS hl

set_option maxHeartbeats 4000000 in
set_option maxRecDepth 100000 in
theorem lawc_19_1 {p : Program} {l : Launch} {e : Env} {s : State} {m : MethodId} {below : List Frame} {meth : Method} {c : Code} {D : va_G} {ca : Nat → ClassId} {ad : ow_Ad} {b L : Nat} {xs : Nat → Int32} {Q : State → Prop} {A : Nat → Prop} (hx : p.tables.exec = Jvm.exec) (hb : c.code = cL_law) (hml : c.maxLocals = 4) (hown : s.vm.findClass RL = some m.cls) (hts : ∀ w ∈ wsL_law, w.before #[Value.ref b] s = true) (hC : ow_C D ca ad A s) (hbA : ¬ A b) (hX : va_X b L xs s s.heap) (hbl : b < s.heap.size) (hL : L ≤ 3072) {st : ow_St} {i : Nat} {H : Heap} {locs : List Loc} {ls : Array Slot} (hi : i + 6 ≤ L) (h : RLs st) (hf1 : xs (i + 1) = 1) (hP : va_P D vwCl (ow_ws ad (ow_c ca ad st)) H) (hS : va_S A s.heap H locs) (hl : lv_has ls 4 [(0, .ref b), (1, .ref (ad 0 0)), (2, .ref (ad 10 0)), (3, .int (nI i))]) (K : ∀ (st : ow_St) (H : Heap) (locs : List Loc) (ls : Array Slot), RLs st → va_P D vwCl (ow_ws ad (ow_c ca ad st)) H → va_S A s.heap H locs → lv_has ls 4 [(0, .ref b), (1, .ref (ad 0 0)), (2, .ref (ad 10 0)), (3, .int (nI i))] → W p l e room_1 s m #[Value.ref b] below meth c H locs 600000 7302250 Q (F0 m 990 ls [])) : W p l e room_1 s m #[Value.ref b] below meth c H locs 600000 7302250 Q (F0 m 943 ls []) := by
  refine lv_aload_n hx hb dL_law_943 rfl (lv_at hl 1 rfl) ?_
  refine lv_aload_n hx hb dL_law_944 rfl (lv_at hl 0 rfl) ?_
  refine lv_iload_n hx hb dL_law_945 rfl (lv_at hl 3 rfl) ?_
  refine lv_iconst (v := 1) hx hb dL_law_946 (by decide) ?_
  refine lv_iadd hx hb dL_law_947 ?_
  rw [show nI i + (1 : Int32) = nI (i + 1) from nI_add i 1]
  refine og_sld (j := i + 1) (v := 1) hx hb hX hbl hbA hS (by omega) (by omega) hf1 dL_law_948 ?_
  refine og_clW (og_runV (C := RX3) (T := TX3) (N := 14) (g := 0) (i := 0) (As := [.int 1]) (rest := []) ⟨hx, hb, hml, hown, hts⟩ (kX3_sum_1 l D ca ad A st (RL_sz h (by decide))) (cwV 1 hts gL_law_X3_sum rfl rfl rfl (by decide +kernel) ⟨Nat.le_of_ble_eq_true rfl, Nat.le_of_ble_eq_true rfl⟩) hC hP hS (ow_q0_0) rfl rfl rfl hl.1 rfl (Nat.le_of_ble_eq_true rfl) dL_law_949 ⟨Nat.le_refl _, Nat.le_refl _⟩) hS (fun H locs hP hS => ?_)
  refine lv_aload_n hx hb dL_law_952 rfl (lv_at hl 2 rfl) ?_
  refine lv_aload_n hx hb dL_law_953 rfl (lv_at hl 0 rfl) ?_
  refine lv_iload_n hx hb dL_law_954 rfl (lv_at hl 3 rfl) ?_
  refine lv_iconst (v := 1) hx hb dL_law_955 (by decide) ?_
  refine lv_iadd hx hb dL_law_956 ?_
  rw [show nI i + (1 : Int32) = nI (i + 1) from nI_add i 1]
  refine og_sld (j := i + 1) (v := 1) hx hb hX hbl hbA hS (by omega) (by omega) hf1 dL_law_957 ?_
  refine og_clW (og_runV (C := RX4) (T := TX4) (N := 19) (g := 10) (i := 0) (As := [.int 1]) (rest := [.long ((fX3_sum_1 st).1)]) ⟨hx, hb, hml, hown, hts⟩ (kX4_sum_1 l D ca ad A (fX3_sum_1 st).2 ((MOK_of (RL_mok h) (mk_sum_1 h )).2.2.1 1 (by decide))) (cwV 1 hts gL_law_X4_sum rfl rfl rfl (by decide +kernel) ⟨Nat.le_of_ble_eq_true rfl, Nat.le_of_ble_eq_true rfl⟩) hC hP hS (ow_q10_0) rfl rfl rfl hl.1 rfl (Nat.le_of_ble_eq_true rfl) dL_law_958 ⟨Nat.le_refl _, Nat.le_refl _⟩) hS (fun H locs hP hS => ?_)
  refine W.lcmp hx hb dL_law_961 ?_
  refine lv_if_eq (tgt := 990) hx hb dL_law_962 (by decide) (fun _ => ?_) (fun c => absurd ((lg_cmp_eq _ _).mpr ((eq_sum_1 h ).1)) c)
  exact K _ _ _ ls (eq_sum_1 h ).2 hP hS hl

set_option maxHeartbeats 4000000 in
set_option maxRecDepth 100000 in
theorem lawc_19_n {p : Program} {l : Launch} {e : Env} {s : State} {m : MethodId} {below : List Frame} {meth : Method} {c : Code} {D : va_G} {ca : Nat → ClassId} {ad : ow_Ad} {b L : Nat} {xs : Nat → Int32} {Q : State → Prop} {A : Nat → Prop} (hx : p.tables.exec = Jvm.exec) (hb : c.code = cL_law) (hml : c.maxLocals = 4) (hown : s.vm.findClass RL = some m.cls) (hts : ∀ w ∈ wsL_law, w.before #[Value.ref b] s = true) (hC : ow_C D ca ad A s) (hbA : ¬ A b) (hX : va_X b L xs s s.heap) (hbl : b < s.heap.size) (hL : L ≤ 3072) {st : ow_St} {i : Nat} {H : Heap} {locs : List Loc} {ls : Array Slot} (hi : i + 6 ≤ L) (h : RLs st) (hn0 : ¬ xs (i + 1) = 0) (hn1 : ¬ xs (i + 1) = 1) (hP : va_P D vwCl (ow_ws ad (ow_c ca ad st)) H) (hS : va_S A s.heap H locs) (hl : lv_has ls 4 [(0, .ref b), (1, .ref (ad 0 0)), (2, .ref (ad 10 0)), (3, .int (nI i))]) (K : ∀ (st : ow_St) (H : Heap) (locs : List Loc) (ls : Array Slot), RLs st → va_P D vwCl (ow_ws ad (ow_c ca ad st)) H → va_S A s.heap H locs → lv_has ls 4 [(0, .ref b), (1, .ref (ad 0 0)), (2, .ref (ad 10 0)), (3, .int (nI i))] → W p l e room_1 s m #[Value.ref b] below meth c H locs 600000 7302250 Q (F0 m 990 ls [])) : W p l e room_1 s m #[Value.ref b] below meth c H locs 600000 7302250 Q (F0 m 943 ls []) := by
  refine lv_aload_n hx hb dL_law_943 rfl (lv_at hl 1 rfl) ?_
  refine lv_aload_n hx hb dL_law_944 rfl (lv_at hl 0 rfl) ?_
  refine lv_iload_n hx hb dL_law_945 rfl (lv_at hl 3 rfl) ?_
  refine lv_iconst (v := 1) hx hb dL_law_946 (by decide) ?_
  refine lv_iadd hx hb dL_law_947 ?_
  rw [show nI i + (1 : Int32) = nI (i + 1) from nI_add i 1]
  refine og_sld (j := i + 1) (v := (xs (i + 1))) hx hb hX hbl hbA hS (by omega) (by omega) rfl dL_law_948 ?_
  refine og_clW (og_runV (C := RX3) (T := TX3) (N := 14) (g := 0) (i := 0) (As := [.int (xs (i + 1))]) (rest := []) ⟨hx, hb, hml, hown, hts⟩ (kX3_sum_n l D ca ad A st (xs (i + 1)) hn0 hn1) (cwV 1 hts gL_law_X3_sum rfl rfl rfl (by decide +kernel) ⟨Nat.le_of_ble_eq_true rfl, Nat.le_of_ble_eq_true rfl⟩) hC hP hS (ow_q0_0) rfl rfl rfl hl.1 rfl (Nat.le_of_ble_eq_true rfl) dL_law_949 ⟨Nat.le_refl _, Nat.le_refl _⟩) hS (fun H locs hP hS => ?_)
  refine lv_aload_n hx hb dL_law_952 rfl (lv_at hl 2 rfl) ?_
  refine lv_aload_n hx hb dL_law_953 rfl (lv_at hl 0 rfl) ?_
  refine lv_iload_n hx hb dL_law_954 rfl (lv_at hl 3 rfl) ?_
  refine lv_iconst (v := 1) hx hb dL_law_955 (by decide) ?_
  refine lv_iadd hx hb dL_law_956 ?_
  rw [show nI i + (1 : Int32) = nI (i + 1) from nI_add i 1]
  refine og_sld (j := i + 1) (v := (xs (i + 1))) hx hb hX hbl hbA hS (by omega) (by omega) rfl dL_law_957 ?_
  refine og_clW (og_runV (C := RX4) (T := TX4) (N := 19) (g := 10) (i := 0) (As := [.int (xs (i + 1))]) (rest := [.long ((fX3_sum_n st (xs (i + 1))).1)]) ⟨hx, hb, hml, hown, hts⟩ (kX4_sum_n l D ca ad A (fX3_sum_n st (xs (i + 1))).2 (xs (i + 1)) hn0 hn1) (cwV 1 hts gL_law_X4_sum rfl rfl rfl (by decide +kernel) ⟨Nat.le_of_ble_eq_true rfl, Nat.le_of_ble_eq_true rfl⟩) hC hP hS (ow_q10_0) rfl rfl rfl hl.1 rfl (Nat.le_of_ble_eq_true rfl) dL_law_958 ⟨Nat.le_refl _, Nat.le_refl _⟩) hS (fun H locs hP hS => ?_)
  refine W.lcmp hx hb dL_law_961 ?_
  refine lv_if_eq (tgt := 990) hx hb dL_law_962 (by decide) (fun _ => ?_) (fun c => absurd ((lg_cmp_eq _ _).mpr ((eq_sum_n h (xs (i + 1)) hn0 hn1).1)) c)
  exact K _ _ _ ls (eq_sum_n h (xs (i + 1)) hn0 hn1).2 hP hS hl

set_option maxHeartbeats 4000000 in
set_option maxRecDepth 100000 in
theorem lawc_20 {p : Program} {l : Launch} {e : Env} {s : State} {m : MethodId} {below : List Frame} {meth : Method} {c : Code} {D : va_G} {ca : Nat → ClassId} {ad : ow_Ad} {b L : Nat} {xs : Nat → Int32} {Q : State → Prop} {A : Nat → Prop} (hx : p.tables.exec = Jvm.exec) (hb : c.code = cL_law) (hml : c.maxLocals = 4) (hown : s.vm.findClass RL = some m.cls) (hts : ∀ w ∈ wsL_law, w.before #[Value.ref b] s = true) (hC : ow_C D ca ad A s) (hbA : ¬ A b) (hX : va_X b L xs s s.heap) (hbl : b < s.heap.size) (hL : L ≤ 3072) {st : ow_St} {i : Nat} {H : Heap} {locs : List Loc} {ls : Array Slot} (hi : i + 6 ≤ L) (h : RLs st)  (hP : va_P D vwCl (ow_ws ad (ow_c ca ad st)) H) (hS : va_S A s.heap H locs) (hl : lv_has ls 4 [(0, .ref b), (1, .ref (ad 0 0)), (2, .ref (ad 10 0)), (3, .int (nI i))]) (K : ∀ (st : ow_St) (H : Heap) (locs : List Loc) (ls : Array Slot), RLs st → va_P D vwCl (ow_ws ad (ow_c ca ad st)) H → va_S A s.heap H locs → lv_has ls 4 [(0, .ref b), (1, .ref (ad 0 0)), (2, .ref (ad 10 0)), (3, .int (nI i))] → W p l e room_1 s m #[Value.ref b] below meth c H locs 600000 7302250 Q (F0 m 990 ls [])) : W p l e room_1 s m #[Value.ref b] below meth c H locs 600000 7302250 Q (F0 m 967 ls []) := by
  refine lv_aload_n hx hb dL_law_967 rfl (lv_at hl 1 rfl) ?_
  refine lv_aload_n hx hb dL_law_968 rfl (lv_at hl 0 rfl) ?_
  refine lv_iload_n hx hb dL_law_969 rfl (lv_at hl 3 rfl) ?_
  refine lv_iconst (v := 1) hx hb dL_law_970 (by decide) ?_
  refine lv_iadd hx hb dL_law_971 ?_
  rw [show nI i + (1 : Int32) = nI (i + 1) from nI_add i 1]
  refine og_sld (j := i + 1) (v := (xs (i + 1))) hx hb hX hbl hbA hS (by omega) (by omega) rfl dL_law_972 ?_
  refine og_ciP (og_runV (C := RX3) (T := TX3) (N := 14) (g := 0) (i := 0) (As := [.int (xs (i + 1))]) (rest := []) ⟨hx, hb, hml, hown, hts⟩ (kX3_count l D ca ad A st (xs (i + 1))) (cwV 1 hts gL_law_X3_count rfl rfl rfl (by decide +kernel) ⟨Nat.le_of_ble_eq_true rfl, Nat.le_of_ble_eq_true rfl⟩) hC hP hS (ow_q0_0) rfl rfl rfl hl.1 rfl (Nat.le_of_ble_eq_true rfl) dL_law_973 ⟨Nat.le_refl _, Nat.le_refl _⟩) hS (fun H locs hP hS => ?_)
  refine lv_aload_n hx hb dL_law_976 rfl (lv_at hl 2 rfl) ?_
  refine lv_aload_n hx hb dL_law_977 rfl (lv_at hl 0 rfl) ?_
  refine lv_iload_n hx hb dL_law_978 rfl (lv_at hl 3 rfl) ?_
  refine lv_iconst (v := 1) hx hb dL_law_979 (by decide) ?_
  refine lv_iadd hx hb dL_law_980 ?_
  rw [show nI i + (1 : Int32) = nI (i + 1) from nI_add i 1]
  refine og_sld (j := i + 1) (v := (xs (i + 1))) hx hb hX hbl hbA hS (by omega) (by omega) rfl dL_law_981 ?_
  refine og_ciP (og_runV (C := RX4) (T := TX4) (N := 19) (g := 10) (i := 0) (As := [.int (xs (i + 1))]) (rest := [.int (fX3_count st (xs (i + 1)))]) ⟨hx, hb, hml, hown, hts⟩ (kX4_count l D ca ad A st (xs (i + 1))) (cwV 1 hts gL_law_X4_count rfl rfl rfl (by decide +kernel) ⟨Nat.le_of_ble_eq_true rfl, Nat.le_of_ble_eq_true rfl⟩) hC hP hS (ow_q10_0) rfl rfl rfl hl.1 rfl (Nat.le_of_ble_eq_true rfl) dL_law_982 ⟨Nat.le_refl _, Nat.le_refl _⟩) hS (fun H locs hP hS => ?_)
  refine lv_icmp_eq (tgt := 990) hx hb dL_law_985 (by decide) (fun _ => ?_) (fun c => absurd (eq_count h (xs (i + 1))) c)
  exact K _ _ _ ls h hP hS hl
