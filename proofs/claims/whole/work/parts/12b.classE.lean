theorem sz_nI {st : ow_St} {t : Nat} (h : iv_sz st t) : st.1 4 t = nI (st.1 4 t).toNatClampNeg ∧ (st.1 4 t).toNatClampNeg ≤ 30 := by
  obtain ⟨n, hn, e⟩ := h
  rw [e, nI_clamp (by omega)]
  exact ⟨rfl, hn⟩
theorem ks_in {st : ow_St} (h : iv_fs st) (h2 : ¬ 30 ≤ st.1 0 2) : vp_in (st.1 0 2) 30 := by
  obtain ⟨n, hn, e⟩ := h
  rw [e] at h2 ⊢
  rcases Nat.lt_or_ge n 30 with h3 | h3
  · exact vp_in_nI h3 (by decide)
  · exact absurd (show (30 : Int32) ≤ nI n by rw [show n = 30 by omega]; decide) h2

theorem li_X3_keepFound_X3 : ∀ w ∈ u_ws RX3 TX3 14, w ∈ wsX3_keepFound := by decide +kernel
theorem lk_X3_keepFound_1 : (.fieldLink RX3 76 "RecordLabels" "foundSize" "I" : Cond) ∈ wsX3_keepFound := by decide +kernel
theorem lk_X3_keepFound_2 : (.fieldLink RX3 73 "RecordLabels" "foundRecords" "[I" : Cond) ∈ wsX3_keepFound := by decide +kernel
def fX3_keepFound (st : ow_St) (x1 : Int32) : ow_St := (if 30 ≤ (st.1 0 2) then st else (let st2 := (ow_si st 111 ((st.1 0 2).toNatClampNeg) x1); (let st3 := (ow_si st2 0 2 ((st2.1 0 2) + 1)); st3)))
set_option maxHeartbeats 4000000 in
set_option maxRecDepth 100000 in
theorem kX3_keepFound (l : Launch) (D : va_G) (ca : Nat → ClassId) (ad : ow_Ad) (A : Nat → Prop) (st : ow_St) (x1 : Int32) (hf : iv_fs st) : Met l yX3_keepFound wsX3_keepFound ({ frames := 0, cells := 0, slots := 0, locals := 0 }) (va_Pc [.ref (ad 0 0), .int x1] (ow_W D ca ad A st)) (va_Qv (fun st' => st' = (fX3_keepFound st x1)) (ow_B D ca ad) A) 0 0 A := by
  refine Met.ofW (cc := cX3_keepFound) (maxL := 2) (ret := none) (by decide) rfl ?_
  intro p e s m args below meth c s₁ B hml hv
  obtain ⟨rfl, hP, hC⟩ := hv
  have hx := B.exec
  have hb := B.bytes
  have hr := B.returns
  have hts := atoms_spec (ws := wsX3_keepFound) B.pre
  have hown : s.vm.findClass RX3 = some m.cls := findClass_of_methodNamed B.named
  have hlocks := B.notSynchronized
  have hS : va_S A s.heap s.heap [] := va_S.rf
  have hl := lv_entry ([.ref (ad 0 0), .int x1]) (n := 2) (Nat.le_of_ble_eq_true rfl)
  rw [lg_entry_eq]
  generalize (lg_sl ([.ref (ad 0 0), .int x1]) ++ List.replicate (2 - (lg_sl ([.ref (ad 0 0), .int x1])).length) Slot.unset).toArray = ls at hl ⊢
  have hl : lv_has ls 2 [(0, .ref (ad 0 0)), (1, .int x1)] := hl
  refine lv_aload_n hx hb dX3_keepFound_0 rfl (lv_at hl 0 rfl) ?_
  refine og_get (C := RX3) (T := TX3) (N := 14) (g := 0) (i := 0) (v := .int (st.1 0 2)) hx hb hts li_X3_keepFound_X3 hown hC hP (ow_q0_0) rfl rfl 13 (by decide) (hts _ lk_X3_keepFound_1) rfl rfl dX3_keepFound_1 ?_
  refine lv_bipush (v := 30) hx hb dX3_keepFound_4 (by decide) ?_
  refine lv_icmp_ge (tgt := 29) hx hb dX3_keepFound_6 (by decide) (fun c_1 => ?_) (fun c_1 => ?_)
  · exact W.vret hx hb hr (fun t ht hW => ⟨⟨st, rfl, (by simp only [fX3_keepFound, if_pos c_1]), ow_Bi ht hP⟩, hS.F ht⟩) hS.2.2 dX3_keepFound_29
  · refine lv_aload_n hx hb dX3_keepFound_9 rfl (lv_at hl 0 rfl) ?_
    refine og_get (C := RX3) (T := TX3) (N := 14) (g := 0) (i := 0) (v := .ref (ad 9 2)) hx hb hts li_X3_keepFound_X3 hown hC hP (ow_q0_0) rfl rfl 12 (by decide) (hts _ lk_X3_keepFound_2) rfl rfl dX3_keepFound_10 ?_
    refine lv_aload_n hx hb dX3_keepFound_13 rfl (lv_at hl 0 rfl) ?_
    refine og_get (C := RX3) (T := TX3) (N := 14) (g := 0) (i := 0) (v := .int (st.1 0 2)) hx hb hts li_X3_keepFound_X3 hown hC hP (ow_q0_0) rfl rfl 13 (by decide) (hts _ lk_X3_keepFound_1) rfl rfl dX3_keepFound_14 ?_
    refine lv_iload_n hx hb dX3_keepFound_17 rfl (lv_at hl 1 rfl) ?_
    refine og_iast (g := 9) (i := 2) (j := ((st.1 0 2).toNatClampNeg)) (v := x1) hx hb hC hP hS (ow_q9_2) rfl (ks_in hf c_1) rfl (we_9_2 st ((st.1 0 2).toNatClampNeg) x1) dX3_keepFound_18 (fun H locs hP hS => ?_)
    obtain ⟨st2, e2⟩ : ∃ z, z = (ow_si st 111 ((st.1 0 2).toNatClampNeg) x1) := ⟨_, rfl⟩
    rw [← e2] at hP
    refine lv_aload_n hx hb dX3_keepFound_19 rfl (lv_at hl 0 rfl) ?_
    refine lv_dup hx hb dX3_keepFound_20 rfl ?_
    refine og_get (C := RX3) (T := TX3) (N := 14) (g := 0) (i := 0) (v := .int (st2.1 0 2)) hx hb hts li_X3_keepFound_X3 hown hC hP (ow_q0_0) rfl rfl 13 (by decide) (hts _ lk_X3_keepFound_1) rfl rfl dX3_keepFound_21 ?_
    refine lv_iconst (v := 1) hx hb dX3_keepFound_24 (by decide) ?_
    refine lv_iadd hx hb dX3_keepFound_25 ?_
    refine og_put (C := RX3) (T := TX3) (N := 14) (g := 0) (i := 0) (v := .int ((st2.1 0 2) + 1)) (ty := .int) hx hb hts li_X3_keepFound_X3 tyX3 tyX3_ok nmX3 hown hC hP hS (ow_q0_0) rfl rfl 13 (by decide) (hts _ lk_X3_keepFound_1) rfl rfl (by decide +kernel) rfl rfl (Nat.le_of_ble_eq_true rfl) (we_0_2 st2 ((st2.1 0 2) + 1)) dX3_keepFound_26 (fun H locs hP hS => ?_)
    obtain ⟨st3, e3⟩ : ∃ z, z = (ow_si st2 0 2 ((st2.1 0 2) + 1)) := ⟨_, rfl⟩
    rw [← e3] at hP
    exact W.vret hx hb hr (fun t ht hW => ⟨⟨st3, rfl, (by subst e3; subst e2; simp only [fX3_keepFound, if_neg c_1]), ow_Bi ht hP⟩, hS.F ht⟩) hS.2.2 dX3_keepFound_29

theorem kf_eq {D : ow_St} {m : Nat} {x : Int32} (e : D.1 0 2 = nI m) (hm : m < 30) : fX3_keepFound D x = ow_si (ow_si D 111 m x) 0 2 (nI (m + 1)) := by
  have h1 : ¬ (30 : Int32) ≤ nI m := nI_ge (b := 30) hm (by decide)
  unfold fX3_keepFound
  dsimp only
  rw [e, if_neg h1, ow_si_ne (by decide), e, nI_clamp (by omega), nI_1]
theorem kf_fr {D : ow_St} {x : Int32} {i : Nat} : (fX3_keepFound D x).1 4 i = D.1 4 i := by
  unfold fX3_keepFound
  dsimp only
  split
  · rfl
  · simp (disch := decide) only [ow_si_ne]
theorem kf_rf {D : ow_St} {x : Int32} : (fX3_keepFound D x).2 = D.2 := by
  unfold fX3_keepFound
  dsimp only
  split <;> rfl

theorem ln_X3_filter_0_0 : (.methodLinkNest RX3 181 yX2_hasItem "RecordLabels" : Cond) ∈ ow_nest := by decide +kernel
theorem lk_X3_filter_0_1 : (.initialized RX2 : Cond) ∈ wsX3_filter := by decide +kernel
theorem lk_X3_filter_0_2 : (.instanceMethod yX2_hasItem : Cond) ∈ wsX3_filter := by decide +kernel
theorem lk_X3_filter_0_3 : (.selects RX2 yX2_hasItem yX2_hasItem : Cond) ∈ wsX3_filter := by decide +kernel
theorem ln_X3_filter_0_4 : (.fieldLinkNest RX3 140 "RecordLabels$LabelSet" "kind" "LRecordLabels$Kind;" "RecordLabels" : Cond) ∈ ow_nest := by decide +kernel
theorem li_X3_filter_0_X1 : ∀ w ∈ u_ws RX1 TX1 2, w ∈ wsX3_filter := by decide +kernel
theorem ln_X3_filter_0_6 : (.fieldLinkNest RX3 192 "RecordLabels$Table" "kind" "LRecordLabels$Kind;" "RecordLabels" : Cond) ∈ ow_nest := by decide +kernel
theorem li_X3_filter_0_X2 : ∀ w ∈ u_ws RX2 TX2 5, w ∈ wsX3_filter := by decide +kernel
theorem lk_X3_filter_0_8 : (.fieldLink RX3 76 "RecordLabels" "foundSize" "I" : Cond) ∈ wsX3_filter := by decide +kernel
theorem li_X3_filter_0_X3 : ∀ w ∈ u_ws RX3 TX3 14, w ∈ wsX3_filter := by decide +kernel
theorem ln_X3_filter_0_10 : (.fieldLinkNest RX3 162 "RecordLabels$Table" "size" "I" "RecordLabels" : Cond) ∈ ow_nest := by decide +kernel
theorem lk_X3_filter_0_11 : (.fieldLink RX3 63 "RecordLabels" "draft" "[I" : Cond) ∈ wsX3_filter := by decide +kernel
theorem ln_X3_filter_0_12 : (.methodLinkNest RX3 143 yX1_holds "RecordLabels" : Cond) ∈ ow_nest := by decide +kernel
theorem lk_X3_filter_0_13 : (.initialized RX1 : Cond) ∈ wsX3_filter := by decide +kernel
theorem lk_X3_filter_0_14 : (.instanceMethod yX1_holds : Cond) ∈ wsX3_filter := by decide +kernel
theorem lk_X3_filter_0_15 : (.selects RX1 yX1_holds yX1_holds : Cond) ∈ wsX3_filter := by decide +kernel
def flX3_filter_0 (x2 x3 x4 x5 : Int32) : Nat → Nat → ow_St → Int32 × ow_St
  | 0, _, sv => (0, sv)
  | n + 1, i, sv => (if (sv.1 4 0) ≤ (nI i) then ((sv.1 0 2), sv) else (let st8 := (fX3_draftOf_0 sv (nI i)); (if (fX3_wrongItem_0 st8) = (-1) then (if (fX1_holds st8 x2.toNatClampNeg (st8.1 103 0)) = 0 then (flX3_filter_0 x2 x3 x4 x5 n (i + 1)  st8) else (if (fX3_isFromTo st8 (fX3_fromCell_0 st8 x3 (st8.1 103 x3.toNatClampNeg)) x4 x5) = 0 then (flX3_filter_0 x2 x3 x4 x5 n (i + 1)  st8) else (let st12 := (fX3_keepFound st8 (nI i)); (flX3_filter_0 x2 x3 x4 x5 n (i + 1)  st12)))) else (flX3_filter_0 x2 x3 x4 x5 n (i + 1)  st8))))
def fX3_filter_0 (st : ow_St) (x2 x3 x4 x5 : Int32) : Int32 × ow_St := (if x2 < 0 ∨ 10 ≤ x2 then ((-1), st) else (if x3 = 0 then ((-1), st) else (if (fX2_hasItem_0 st x3) = 0 then ((-1), st) else (if (st.2.2 (x2.toNatClampNeg + 1)) = 0 then (let st6 := (ow_si st 0 2 0); (flX3_filter_0 x2 x3 x4 x5 (((st.1 4 0).toNatClampNeg) + 1) 0  st6)) else ((-3), st)))))
set_option maxHeartbeats 4000000 in
set_option maxRecDepth 100000 in
theorem kX3_filter_0 (l : Launch) (D : va_G) (ca : Nat → ClassId) (ad : ow_Ad) (A : Nat → Prop) (st : ow_St) (x2 : Int32) (x3 : Int32) (x4 : Int32) (x5 : Int32) (hz0 : iv_sz st 0) (hsk : iv_sk st) : Met l yX3_filter wsX3_filter ({ frames := 3, cells := 0, slots := 0, locals := 67 }) (va_Pc [.ref (ad 0 0), .int 0, .int x2, .int x3, .int x4, .int x5] (ow_W D ca ad A st)) (va_Qi (fun r st' => (r, st') = (fX3_filter_0 st x2 x3 x4 x5)) (ow_B D ca ad) A) 0 0 A := by
  refine Met.ofW (cc := cX3_filter) (maxL := 10) (ret := (some .int)) (by decide) rfl ?_
  intro p e s m args below meth c s₁ B hml hv
  obtain ⟨rfl, hP, hC⟩ := hv
  have hx := B.exec
  have hb := B.bytes
  have hr := B.returns
  have hts := atoms_spec (ws := wsX3_filter) B.pre
  have hown : s.vm.findClass RX3 = some m.cls := findClass_of_methodNamed B.named
  have hlocks := B.notSynchronized
  have hS : va_S A s.heap s.heap [] := va_S.rf
  have hl := lv_entry ([.ref (ad 0 0), .int 0, .int x2, .int x3, .int x4, .int x5]) (n := 10) (Nat.le_of_ble_eq_true rfl)
  rw [lg_entry_eq]
  generalize (lg_sl ([.ref (ad 0 0), .int 0, .int x2, .int x3, .int x4, .int x5]) ++ List.replicate (10 - (lg_sl ([.ref (ad 0 0), .int 0, .int x2, .int x3, .int x4, .int x5])).length) Slot.unset).toArray = ls at hl ⊢
  have hl : lv_has ls 10 [(0, .ref (ad 0 0)), (1, .int 0), (2, .int x2), (3, .int x3), (4, .int x4), (5, .int x5)] := hl
  have hB30 : ((st.1 4 0).toNatClampNeg) ≤ 30 := (sz_nI hz0).2
  refine lv_aload_n hx hb dX3_filter_0 rfl (lv_at hl 0 rfl) ?_
  refine lv_iload_n hx hb dX3_filter_1 rfl (lv_at hl 1 rfl) ?_
  have c_1 : ((0 : Int32) = 0) := by decide
  refine og_cqS (q := ad 6 0) (og_runV (C := RX3) (T := TX3) (N := 14) (g := 0) (i := 0) (As := [.int 0]) (rest := []) ⟨hx, hb, hml, hown, hts⟩ (kX3_tableNumbered l D ca ad A st 0) (cwV 1 hts gX3_filter_X3_tableNumbered rfl rfl rfl (by decide +kernel) ⟨Nat.le_of_ble_eq_true rfl, Nat.le_of_ble_eq_true rfl⟩) hC hP hS (ow_q0_0) rfl rfl rfl hl.1 rfl (Nat.le_of_ble_eq_true rfl) dX3_filter_2 ⟨Nat.zero_le _, Nat.zero_le _⟩) hS (by first | (simp only [fX3_tableNumbered, if_pos c_1]; done) | simp [fX3_tableNumbered]) (fun H locs hP hS => ?_)
  refine lv_astore (lv' := [(6, .ref (ad 6 0)), (0, .ref (ad 0 0)), (1, .int 0), (2, .int x2), (3, .int x3), (4, .int x4), (5, .int x5)]) hx hb dX3_filter_5 hl (by decide) rfl (fun ls hl => ?_)
  refine lv_aload_n hx hb dX3_filter_7 rfl (lv_at hl 1 rfl) ?_
  refine lv_iload_n hx hb dX3_filter_8 rfl (lv_at hl 3 rfl) ?_
  by_cases c_2 : x2 < 0 ∨ 10 ≤ x2
  · refine og_cqN (og_runV (C := RX3) (T := TX3) (N := 14) (g := 0) (i := 0) (As := [.int x2]) (rest := []) ⟨hx, hb, hml, hown, hts⟩ (kX3_setNumbered l D ca ad A st x2) (cwV 1 hts gX3_filter_X3_setNumbered rfl rfl rfl (by decide +kernel) ⟨Nat.le_of_ble_eq_true rfl, Nat.le_of_ble_eq_true rfl⟩) hC hP hS (ow_q0_0) rfl rfl rfl hl.1 rfl (Nat.le_of_ble_eq_true rfl) dX3_filter_9 ⟨Nat.zero_le _, Nat.zero_le _⟩) hS (setN_none c_2) (fun H locs hP hS => ?_)
    refine lv_astoreN (lv' := [(7, .null), (6, .ref (ad 6 0)), (0, .ref (ad 0 0)), (1, .int 0), (2, .int x2), (3, .int x3), (4, .int x4), (5, .int x5)]) hx hb dX3_filter_12 hl (by decide) rfl (fun ls hl => ?_)
    refine lv_aload hx hb dX3_filter_14 (lv_at hl 1 rfl) ?_
    refine lv_ifnull hx hb dX3_filter_16 ?_
    refine lv_aloadN hx hb dX3_filter_19 (lv_at hl 0 rfl) ?_
    refine lv_ifnullN (tgt := 37) hx hb dX3_filter_21 (by decide) ?_
    refine lv_iconst (v := (-1)) hx hb dX3_filter_37 (by decide) ?_
    exact W.iret (v := (-1)) hx hb hr (fun t ht hW => ⟨⟨(-1), st, rfl, (by simp only [fX3_filter_0, if_pos c_2]), ow_Bi ht hP⟩, hS.F ht⟩) hS.2.2 dX3_filter_38
  · refine og_cqS (q := ad 5 x2.toNatClampNeg) (og_runV (C := RX3) (T := TX3) (N := 14) (g := 0) (i := 0) (As := [.int x2]) (rest := []) ⟨hx, hb, hml, hown, hts⟩ (kX3_setNumbered l D ca ad A st x2) (cwV 1 hts gX3_filter_X3_setNumbered rfl rfl rfl (by decide +kernel) ⟨Nat.le_of_ble_eq_true rfl, Nat.le_of_ble_eq_true rfl⟩) hC hP hS (ow_q0_0) rfl rfl rfl hl.1 rfl (Nat.le_of_ble_eq_true rfl) dX3_filter_9 ⟨Nat.zero_le _, Nat.zero_le _⟩) hS (setN_some c_2) (fun H locs hP hS => ?_)
    refine lv_astore (lv' := [(7, .ref (ad 5 x2.toNatClampNeg)), (6, .ref (ad 6 0)), (0, .ref (ad 0 0)), (1, .int 0), (2, .int x2), (3, .int x3), (4, .int x4), (5, .int x5)]) hx hb dX3_filter_12 hl (by decide) rfl (fun ls hl => ?_)
    refine lv_aload hx hb dX3_filter_14 (lv_at hl 1 rfl) ?_
    refine lv_ifnull hx hb dX3_filter_16 ?_
    refine lv_aload hx hb dX3_filter_19 (lv_at hl 0 rfl) ?_
    refine lv_ifnull hx hb dX3_filter_21 ?_
    refine lv_iload_n hx hb dX3_filter_24 rfl (lv_at hl 5 rfl) ?_
    refine lv_if_eq (tgt := 37) hx hb dX3_filter_25 (by decide) (fun c_3 => ?_) (fun c_3 => ?_)
    · refine lv_iconst (v := (-1)) hx hb dX3_filter_37 (by decide) ?_
      exact W.iret (v := (-1)) hx hb hr (fun t ht hW => ⟨⟨(-1), st, rfl, (by simp only [fX3_filter_0, if_neg c_2, if_pos c_3]), ow_Bi ht hP⟩, hS.F ht⟩) hS.2.2 dX3_filter_38
    · refine lv_aload hx hb dX3_filter_28 (lv_at hl 1 rfl) ?_
      refine lv_iload_n hx hb dX3_filter_30 rfl (lv_at hl 5 rfl) ?_
      refine og_ciP (og_runVN (C := RX2) (T := TX2) (N := 5) (g := 6) (i := 0) (As := [.int x3]) (rest := []) ⟨hx, hb, hml, hown, hts⟩ (kX2_hasItem_0 l D ca ad A st x3) ⟨va_cnB 1 hts gX3_filter_X2_hasItem_n181 rfl rfl rfl (hC.2.2.1 _ ln_X3_filter_0_0) (hts _ lk_X3_filter_0_1) (by decide +kernel) ⟨Nat.le_of_ble_eq_true rfl, Nat.le_of_ble_eq_true rfl⟩, (hts _ lk_X3_filter_0_2), (hts _ lk_X3_filter_0_3)⟩ hC hP hS (ow_q6_0) rfl rfl rfl hl.1 rfl (Nat.le_of_ble_eq_true rfl) dX3_filter_31 ⟨Nat.zero_le _, Nat.zero_le _⟩) hS (fun H locs hP hS => ?_)
      refine lv_if_ne (tgt := 39) hx hb dX3_filter_34 (by decide) (fun c_4 => ?_) (fun c_4 => ?_)
      · refine lv_aload hx hb dX3_filter_39 (lv_at hl 0 rfl) ?_
        refine og_getN (C := RX1) (T := TX1) (N := 2) (g := 5) (i := x2.toNatClampNeg) (v := .ref (ad 1 (st.2.2 (x2.toNatClampNeg + 1)))) hx hb hts li_X3_filter_0_X1 hown hC hP (ow_m5 (setN_b c_2)) rfl rfl 0 (by decide) ln_X3_filter_0_4 rfl rfl dX3_filter_41 ?_
        refine lv_aload hx hb dX3_filter_44 (lv_at hl 1 rfl) ?_
        refine og_getN (C := RX2) (T := TX2) (N := 5) (g := 6) (i := 0) (v := .ref (ad 1 0)) hx hb hts li_X3_filter_0_X2 hown hC hP (ow_q6_0) rfl rfl 0 (by decide) ln_X3_filter_0_6 rfl rfl dX3_filter_46 ?_
        by_cases c_5 : (st.2.2 (x2.toNatClampNeg + 1)) = 0
        · refine lv_acmp_eq (rx := some (ad 1 (st.2.2 (x2.toNatClampNeg + 1)))) (ry := some (ad 1 0)) (tgt := 55) hx hb dX3_filter_49 (by decide) (fun _ => ?_) (fun c => absurd (congrArg some (congrArg (ad 1) c_5)) c)
          refine lv_aload_n hx hb dX3_filter_55 rfl (lv_at hl 2 rfl) ?_
          refine lv_iconst (v := 0) hx hb dX3_filter_56 (by decide) ?_
          refine og_put (C := RX3) (T := TX3) (N := 14) (g := 0) (i := 0) (v := .int 0) (ty := .int) hx hb hts li_X3_filter_0_X3 tyX3 tyX3_ok nmX3 hown hC hP hS (ow_q0_0) rfl rfl 13 (by decide) (hts _ lk_X3_filter_0_8) rfl rfl (by decide +kernel) rfl rfl (Nat.le_of_ble_eq_true rfl) (we_0_2 st 0) dX3_filter_57 (fun H locs hP hS => ?_)
          obtain ⟨st6, e6⟩ : ∃ z, z = (ow_si st 0 2 0) := ⟨_, rfl⟩
          rw [← e6] at hP
          refine lv_iconst (v := 0) hx hb dX3_filter_60 (by decide) ?_
          refine lv_istore (lv' := [(8, .int 0), (7, .ref (ad 5 x2.toNatClampNeg)), (6, .ref (ad 6 0)), (0, .ref (ad 0 0)), (1, .int 0), (2, .int x2), (3, .int x3), (4, .int x4), (5, .int x5)]) hx hb dX3_filter_61 hl (by decide) rfl (fun ls hl => ?_)
          have loop : ∀ (n i : Nat) (sv : ow_St) (H : Heap) (locs : List Loc) (ls : Array Slot), i ≤ ((st.1 4 0).toNatClampNeg) → ((st.1 4 0).toNatClampNeg) < i + n → (sv.1 4 0 = nI ((st.1 4 0).toNatClampNeg)) → (sv.2 = st.2) → (∃ m, m ≤ i ∧ sv.1 0 2 = nI m) → flX3_filter_0 x2 x3 x4 x5 n i sv = (fX3_filter_0 st x2 x3 x4 x5) → va_P D vwCl (ow_ws ad (ow_c ca ad sv)) H → va_S A s.heap H locs → lv_has ls 10 [(8, .int (nI i)), (7, .ref (ad 5 x2.toNatClampNeg)), (6, .ref (ad 6 0)), (0, .ref (ad 0 0)), (1, .int 0), (2, .int x2), (3, .int x3), (4, .int x4), (5, .int x5)] → W p l e (headSpec wsX3_filter ({ frames := 3, cells := 0, slots := 0, locals := 67 } : Room)).room s m ([.ref (ad 0 0), .int 0, .int x2, .int x3, .int x4, .int x5] : List Value).toArray below meth c H locs 0 0 (MQ below (va_Qi (fun r st' => (r, st') = (fX3_filter_0 st x2 x3 x4 x5)) (ow_B D ca ad) A) ([.ref (ad 0 0), .int 0, .int x2, .int x3, .int x4, .int x5] : List Value).toArray s 0 0 A) (F0 m 63 ls []) := by
            intro n
            induction n with
            | zero => intro i sv H locs ls h1 h2; exact absurd h2 (by omega)
            | succ n ih =>
              intro i sv H locs ls hle hlt hB hR hM heq hP hS hl
              refine lv_iload hx hb dX3_filter_63 (lv_at hl 0 rfl) ?_
              refine lv_aload hx hb dX3_filter_65 (lv_at hl 2 rfl) ?_
              refine og_getN (C := RX2) (T := TX2) (N := 5) (g := 6) (i := 0) (v := .int (sv.1 4 0)) hx hb hts li_X3_filter_0_X2 hown hC hP (ow_q6_0) rfl rfl 4 (by decide) ln_X3_filter_0_10 rfl rfl dX3_filter_67 ?_
              refine lv_icmp_ge (tgt := 144) hx hb dX3_filter_70 (by decide) (fun c_7 => ?_) (fun c_7 => ?_)
              · refine lv_aload_n hx hb dX3_filter_144 rfl (lv_at hl 3 rfl) ?_
                refine og_get (C := RX3) (T := TX3) (N := 14) (g := 0) (i := 0) (v := .int (sv.1 0 2)) hx hb hts li_X3_filter_0_X3 hown hC hP (ow_q0_0) rfl rfl 13 (by decide) (hts _ lk_X3_filter_0_8) rfl rfl dX3_filter_145 ?_
                exact W.iret (v := (sv.1 0 2)) hx hb hr (fun t ht hW => ⟨⟨(sv.1 0 2), sv, rfl, (by rw [← heq]; simp only [flX3_filter_0, if_pos c_7]), ow_Bi ht hP⟩, hS.F ht⟩) hS.2.2 dX3_filter_148
              · refine lv_aload_n hx hb dX3_filter_73 rfl (lv_at hl 3 rfl) ?_
                refine lv_aload hx hb dX3_filter_74 (lv_at hl 2 rfl) ?_
                refine lv_iload hx hb dX3_filter_76 (lv_at hl 0 rfl) ?_
                refine og_cvW (og_runV (C := RX3) (T := TX3) (N := 14) (g := 0) (i := 0) (As := [.ref (ad 6 0), .int (nI i)]) (rest := []) ⟨hx, hb, hml, hown, hts⟩ (kX3_draftOf_0 l D ca ad A sv (nI i) ⟨_, hB30, hB⟩) (cwV 2 hts gX3_filter_X3_draftOf rfl rfl rfl (by decide +kernel) ⟨Nat.le_of_ble_eq_true rfl, Nat.le_of_ble_eq_true rfl⟩) hC hP hS (ow_q0_0) rfl rfl rfl hl.1 rfl (Nat.le_of_ble_eq_true rfl) dX3_filter_78 ⟨Nat.zero_le _, Nat.zero_le _⟩) hS (fun H locs hP hS => ?_)
                obtain ⟨st8, e8⟩ : ∃ z, z = (fX3_draftOf_0 sv (nI i)) := ⟨_, rfl⟩
                rw [← e8] at hP
                refine lv_aload_n hx hb dX3_filter_81 rfl (lv_at hl 3 rfl) ?_
                refine lv_aload hx hb dX3_filter_82 (lv_at hl 2 rfl) ?_
                refine lv_iload_n hx hb dX3_filter_84 rfl (lv_at hl 6 rfl) ?_
                refine lv_aload_n hx hb dX3_filter_85 rfl (lv_at hl 3 rfl) ?_
                refine og_get (C := RX3) (T := TX3) (N := 14) (g := 0) (i := 0) (v := .ref (ad 9 0)) hx hb hts li_X3_filter_0_X3 hown hC hP (ow_q0_0) rfl rfl 9 (by decide) (hts _ lk_X3_filter_0_11) rfl rfl dX3_filter_86 ?_
                refine lv_iload_n hx hb dX3_filter_89 rfl (lv_at hl 6 rfl) ?_
                refine og_iald (g := 9) (i := 0) (j := x3.toNatClampNeg) (v := (st8.1 103 x3.toNatClampNeg)) hx hb hC hP (ow_q9_0) rfl (itm_in_0 c_4) rfl rfl dX3_filter_90 ?_
                refine og_ciP (og_runV (C := RX3) (T := TX3) (N := 14) (g := 0) (i := 0) (As := [.ref (ad 6 0), .int x3, .int (st8.1 103 x3.toNatClampNeg)]) (rest := []) ⟨hx, hb, hml, hown, hts⟩ (kX3_fromCell_0 l D ca ad A st8 x3 (st8.1 103 x3.toNatClampNeg)) (cwV 3 hts gX3_filter_X3_fromCell rfl rfl rfl (by decide +kernel) ⟨Nat.le_of_ble_eq_true rfl, Nat.le_of_ble_eq_true rfl⟩) hC hP hS (ow_q0_0) rfl rfl rfl hl.1 rfl (Nat.le_of_ble_eq_true rfl) dX3_filter_91 ⟨Nat.zero_le _, Nat.zero_le _⟩) hS (fun H locs hP hS => ?_)
                refine lv_istore (lv' := [(9, .int (fX3_fromCell_0 st8 x3 (st8.1 103 x3.toNatClampNeg))), (8, .int (nI i)), (7, .ref (ad 5 x2.toNatClampNeg)), (6, .ref (ad 6 0)), (0, .ref (ad 0 0)), (1, .int 0), (2, .int x2), (3, .int x3), (4, .int x4), (5, .int x5)]) hx hb dX3_filter_94 hl (by decide) rfl (fun ls hl => ?_)
                refine lv_aload_n hx hb dX3_filter_96 rfl (lv_at hl 4 rfl) ?_
                refine lv_aload hx hb dX3_filter_97 (lv_at hl 3 rfl) ?_
                refine og_ciP (og_runV (C := RX3) (T := TX3) (N := 14) (g := 0) (i := 0) (As := [.ref (ad 6 0)]) (rest := []) ⟨hx, hb, hml, hown, hts⟩ (kX3_wrongItem_0 l D ca ad A st8) (cwV 1 hts gX3_filter_X3_wrongItem rfl rfl rfl (by decide +kernel) ⟨Nat.le_of_ble_eq_true rfl, Nat.le_of_ble_eq_true rfl⟩) hC hP hS (ow_q0_0) rfl rfl rfl hl.1 rfl (Nat.le_of_ble_eq_true rfl) dX3_filter_99 ⟨Nat.zero_le _, Nat.zero_le _⟩) hS (fun H locs hP hS => ?_)
                refine lv_iconst (v := (-1)) hx hb dX3_filter_102 (by decide) ?_
                refine lv_icmp_ne (tgt := 138) hx hb dX3_filter_103 (by decide) (fun c_9 => ?_) (fun c_9 => ?_)
                · refine lv_iinc (v := (nI (i + 1))) (lv' := [(8, .int (nI (i + 1))), (9, .int (fX3_fromCell_0 st8 x3 (st8.1 103 x3.toNatClampNeg))), (7, .ref (ad 5 x2.toNatClampNeg)), (6, .ref (ad 6 0)), (0, .ref (ad 0 0)), (1, .int 0), (2, .int x2), (3, .int x3), (4, .int x4), (5, .int x5)]) hx hb dX3_filter_138 hl (k := 1) rfl (nI_1 _) (by decide) rfl (fun ls hl => ?_)
                  refine lv_goto (tgt := 63) hx hb dX3_filter_141 (by decide) ?_
                  exact ih (i + 1)  st8 _ _ _ (ow_lt (by rw [← hB]; exact c_7) hle (by omega)) (by omega) (by subst e8; simp (disch := decide) only [kf_fr, dr_fr_0]; exact hB) (by subst e8; exact dr_rf_0.trans hR) (by subst e8; obtain ⟨m, hm, em⟩ := hM; exact ⟨m, by omega, (dr_fr_0 (by decide)).trans em⟩) (by subst e8; rw [← heq]; simp only [flX3_filter_0, if_neg c_7, if_neg c_9]) hP hS (lv_sub hl [0, 2, 3, 4, 5, 6, 7, 8, 9] rfl)
                · refine lv_aload hx hb dX3_filter_106 (lv_at hl 2 rfl) ?_
                  refine lv_aload_n hx hb dX3_filter_108 rfl (lv_at hl 4 rfl) ?_
                  refine og_get (C := RX3) (T := TX3) (N := 14) (g := 0) (i := 0) (v := .ref (ad 9 0)) hx hb hts li_X3_filter_0_X3 hown hC hP (ow_q0_0) rfl rfl 9 (by decide) (hts _ lk_X3_filter_0_11) rfl rfl dX3_filter_109 ?_
                  refine lv_iconst (v := 0) hx hb dX3_filter_112 (by decide) ?_
                  refine og_iald (g := 9) (i := 0) (j := 0) (v := (st8.1 103 0)) hx hb hC hP (ow_q9_0) rfl (by unfold vp_in; decide) rfl rfl dX3_filter_113 ?_
                  refine og_ciP (og_runVN (C := RX1) (T := TX1) (N := 2) (g := 5) (i := x2.toNatClampNeg) (As := [.int (st8.1 103 0)]) (rest := []) ⟨hx, hb, hml, hown, hts⟩ (kX1_holds l D ca ad A st8 x2.toNatClampNeg (setN_b c_2) (by subst e8; rw [dr_rf_0, hR]; exact hsk _ (setN_b c_2)) (st8.1 103 0)) ⟨va_cnB 1 hts gX3_filter_X1_holds_n143 rfl rfl rfl (hC.2.2.1 _ ln_X3_filter_0_12) (hts _ lk_X3_filter_0_13) (by decide +kernel) ⟨Nat.le_of_ble_eq_true rfl, Nat.le_of_ble_eq_true rfl⟩, (hts _ lk_X3_filter_0_14), (hts _ lk_X3_filter_0_15)⟩ hC hP hS (ow_m5 (setN_b c_2)) rfl rfl rfl hl.1 rfl (Nat.le_of_ble_eq_true rfl) dX3_filter_114 ⟨Nat.zero_le _, Nat.zero_le _⟩) hS (fun H locs hP hS => ?_)
                  refine lv_if_eq (tgt := 138) hx hb dX3_filter_117 (by decide) (fun c_10 => ?_) (fun c_10 => ?_)
                  · refine lv_iinc (v := (nI (i + 1))) (lv' := [(8, .int (nI (i + 1))), (9, .int (fX3_fromCell_0 st8 x3 (st8.1 103 x3.toNatClampNeg))), (7, .ref (ad 5 x2.toNatClampNeg)), (6, .ref (ad 6 0)), (0, .ref (ad 0 0)), (1, .int 0), (2, .int x2), (3, .int x3), (4, .int x4), (5, .int x5)]) hx hb dX3_filter_138 hl (k := 1) rfl (nI_1 _) (by decide) rfl (fun ls hl => ?_)
                    refine lv_goto (tgt := 63) hx hb dX3_filter_141 (by decide) ?_
                    exact ih (i + 1)  st8 _ _ _ (ow_lt (by rw [← hB]; exact c_7) hle (by omega)) (by omega) (by subst e8; simp (disch := decide) only [kf_fr, dr_fr_0]; exact hB) (by subst e8; exact dr_rf_0.trans hR) (by subst e8; obtain ⟨m, hm, em⟩ := hM; exact ⟨m, by omega, (dr_fr_0 (by decide)).trans em⟩) (by subst e8; rw [← heq]; simp only [flX3_filter_0, if_neg c_7, if_pos c_9, if_pos c_10]) hP hS (lv_sub hl [0, 2, 3, 4, 5, 6, 7, 8, 9] rfl)
                  · refine lv_iload hx hb dX3_filter_120 (lv_at hl 0 rfl) ?_
                    refine lv_iload hx hb dX3_filter_122 (lv_at hl 8 rfl) ?_
                    refine lv_iload hx hb dX3_filter_124 (lv_at hl 9 rfl) ?_
                    refine og_ciP (og_runS (As := [.int (fX3_fromCell_0 st8 x3 (st8.1 103 x3.toNatClampNeg)), .int x4, .int x5]) (rest := []) ⟨hx, hb, hml, hown, hts⟩ (kX3_isFromTo l D ca ad A st8 (fX3_fromCell_0 st8 x3 (st8.1 103 x3.toNatClampNeg)) x4 x5) (va_cwS 3 hts gX3_filter_X3_isFromTo rfl rfl rfl (by decide +kernel) ⟨Nat.le_of_ble_eq_true rfl, Nat.le_of_ble_eq_true rfl⟩) hC hP hS rfl hl.1 rfl (Nat.le_of_ble_eq_true rfl) dX3_filter_126 ⟨Nat.zero_le _, Nat.zero_le _⟩) hS (fun H locs hP hS => ?_)
                    refine lv_if_eq (tgt := 138) hx hb dX3_filter_129 (by decide) (fun c_11 => ?_) (fun c_11 => ?_)
                    · refine lv_iinc (v := (nI (i + 1))) (lv' := [(8, .int (nI (i + 1))), (9, .int (fX3_fromCell_0 st8 x3 (st8.1 103 x3.toNatClampNeg))), (7, .ref (ad 5 x2.toNatClampNeg)), (6, .ref (ad 6 0)), (0, .ref (ad 0 0)), (1, .int 0), (2, .int x2), (3, .int x3), (4, .int x4), (5, .int x5)]) hx hb dX3_filter_138 hl (k := 1) rfl (nI_1 _) (by decide) rfl (fun ls hl => ?_)
                      refine lv_goto (tgt := 63) hx hb dX3_filter_141 (by decide) ?_
                      exact ih (i + 1)  st8 _ _ _ (ow_lt (by rw [← hB]; exact c_7) hle (by omega)) (by omega) (by subst e8; simp (disch := decide) only [kf_fr, dr_fr_0]; exact hB) (by subst e8; exact dr_rf_0.trans hR) (by subst e8; obtain ⟨m, hm, em⟩ := hM; exact ⟨m, by omega, (dr_fr_0 (by decide)).trans em⟩) (by subst e8; rw [← heq]; simp only [flX3_filter_0, if_neg c_7, if_pos c_9, if_neg c_10, if_pos c_11]) hP hS (lv_sub hl [0, 2, 3, 4, 5, 6, 7, 8, 9] rfl)
                    · refine lv_aload_n hx hb dX3_filter_132 rfl (lv_at hl 4 rfl) ?_
                      refine lv_iload hx hb dX3_filter_133 (lv_at hl 1 rfl) ?_
                      refine og_cvW (og_runV (C := RX3) (T := TX3) (N := 14) (g := 0) (i := 0) (As := [.int (nI i)]) (rest := []) ⟨hx, hb, hml, hown, hts⟩ (kX3_keepFound l D ca ad A st8 (nI i) (by have h9 : i < (st.1 4 0).toNatClampNeg := (ow_lt (by rw [← hB]; exact c_7) hle (by omega)); subst e8; obtain ⟨m, hm, em⟩ := hM; exact ⟨m, by omega, (dr_fr_0 (by decide)).trans em⟩)) (cwV 1 hts gX3_filter_X3_keepFound rfl rfl rfl (by decide +kernel) ⟨Nat.le_of_ble_eq_true rfl, Nat.le_of_ble_eq_true rfl⟩) hC hP hS (ow_q0_0) rfl rfl rfl hl.1 rfl (Nat.le_of_ble_eq_true rfl) dX3_filter_135 ⟨Nat.zero_le _, Nat.zero_le _⟩) hS (fun H locs hP hS => ?_)
                      obtain ⟨st12, e12⟩ : ∃ z, z = (fX3_keepFound st8 (nI i)) := ⟨_, rfl⟩
                      rw [← e12] at hP
                      refine lv_iinc (v := (nI (i + 1))) (lv' := [(8, .int (nI (i + 1))), (9, .int (fX3_fromCell_0 st8 x3 (st8.1 103 x3.toNatClampNeg))), (7, .ref (ad 5 x2.toNatClampNeg)), (6, .ref (ad 6 0)), (0, .ref (ad 0 0)), (1, .int 0), (2, .int x2), (3, .int x3), (4, .int x4), (5, .int x5)]) hx hb dX3_filter_138 hl (k := 1) rfl (nI_1 _) (by decide) rfl (fun ls hl => ?_)
                      refine lv_goto (tgt := 63) hx hb dX3_filter_141 (by decide) ?_
                      exact ih (i + 1)  st12 _ _ _ (ow_lt (by rw [← hB]; exact c_7) hle (by omega)) (by omega) (by subst e12; subst e8; simp (disch := decide) only [kf_fr, dr_fr_0]; exact hB) (by subst e12; subst e8; exact kf_rf.trans (dr_rf_0.trans hR)) (by have h9 : i < (st.1 4 0).toNatClampNeg := (ow_lt (by rw [← hB]; exact c_7) hle (by omega)); subst e12; subst e8; obtain ⟨m, hm, em⟩ := hM; exact ⟨m + 1, by omega, by rw [kf_eq ((dr_fr_0 (by decide)).trans em) (by omega)]; exact ow_si_e _ _ _ _⟩) (by subst e12; subst e8; rw [← heq]; simp only [flX3_filter_0, if_neg c_7, if_pos c_9, if_neg c_10, if_neg c_11]) hP hS (lv_sub hl [0, 2, 3, 4, 5, 6, 7, 8, 9] rfl)
          exact loop (((st.1 4 0).toNatClampNeg) + 1) 0  st6 _ _ _ (Nat.zero_le _) (by omega) (by subst e6; rw [ow_si_ne (by decide)]; exact (sz_nI hz0).1) (by subst e6; rfl) ⟨0, Nat.le_refl 0, by subst e6; exact ow_si_e _ _ _ _⟩ (by subst e6; simp only [fX3_filter_0, if_neg c_2, if_neg c_3, if_neg c_4, if_pos c_5]) hP hS (lv_sub hl [0, 1, 2, 3, 4, 5, 6, 7, 8] rfl)
        · refine lv_acmp_eq (rx := some (ad 1 (st.2.2 (x2.toNatClampNeg + 1)))) (ry := some (ad 1 0)) (tgt := 55) hx hb dX3_filter_49 (by decide) (fun c => absurd c (fun h => c_5 (ow_inj hC.2.1 (ow_m1 (hsk _ (setN_b c_2))) (ow_q1_0) (Option.some.inj h)).2)) (fun _ => ?_)
          refine lv_bipush (v := (-3)) hx hb dX3_filter_52 (by decide) ?_
          exact W.iret (v := (-3)) hx hb hr (fun t ht hW => ⟨⟨(-3), st, rfl, (by simp only [fX3_filter_0, if_neg c_2, if_neg c_3, if_neg c_4, if_neg c_5]), ow_Bi ht hP⟩, hS.F ht⟩) hS.2.2 dX3_filter_54
      · refine lv_iconst (v := (-1)) hx hb dX3_filter_37 (by decide) ?_
        exact W.iret (v := (-1)) hx hb hr (fun t ht hW => ⟨⟨(-1), st, rfl, (by simp only [fX3_filter_0, if_neg c_2, if_neg c_3, if_pos c_4]), ow_Bi ht hP⟩, hS.F ht⟩) hS.2.2 dX3_filter_38

theorem ln_X3_sum_0_0 : (.fieldLinkNest RX3 162 "RecordLabels$Table" "size" "I" "RecordLabels" : Cond) ∈ ow_nest := by decide +kernel
theorem li_X3_sum_0_X2 : ∀ w ∈ u_ws RX2 TX2 5, w ∈ wsX3_sum := by decide +kernel
theorem ln_X3_sum_0_2 : (.fieldLinkNest RX3 192 "RecordLabels$Table" "kind" "LRecordLabels$Kind;" "RecordLabels" : Cond) ∈ ow_nest := by decide +kernel
theorem li_X3_sum_0_X3 : ∀ w ∈ u_ws RX3 TX3 14, w ∈ wsX3_sum := by decide +kernel
theorem lk_X3_sum_0_4 : (.fieldLink RX3 63 "RecordLabels" "draft" "[I" : Cond) ∈ wsX3_sum := by decide +kernel
theorem ln_X3_sum_0_5 : (.fieldLinkNest RX3 206 "RecordLabels$Table" "measure" "I" "RecordLabels" : Cond) ∈ ow_nest := by decide +kernel
def flX3_sum_0  : Nat → Nat → Int64 → ow_St → Int64 × ow_St
  | 0, _, _, sv => (0, sv)
  | n + 1, i, w3, sv => (if (sv.1 4 0) ≤ (nI i) then (w3, sv) else (let st3 := (fX3_draftOf_0 sv (nI i)); (if (fX3_wrongItem_0 st3) = (-1) then (let st5 := (fX3_askRule_0 st3 (st3.1 103 0) ((st3.1 103 1).toInt64)).2; (if (fX3_askRule_0 st3 (st3.1 103 0) ((st3.1 103 1).toInt64)).1 = (-8) then ((((fX3_askRule_0 st3 (st3.1 103 0) ((st3.1 103 1).toInt64)).1).toInt64), st5) else (if (fX3_askRule_0 st3 (st3.1 103 0) ((st3.1 103 1).toInt64)).1 = (-9) then ((((fX3_askRule_0 st3 (st3.1 103 0) ((st3.1 103 1).toInt64)).1).toInt64), st5) else (if (fX3_askRule_0 st3 (st3.1 103 0) ((st3.1 103 1).toInt64)).1 = 1 then (flX3_sum_0  n (i + 1) (w3 + (fX3_valueOf_0 st5 (st5.1 103 0) ((st5.1 103 1).toInt64))) st5) else (flX3_sum_0  n (i + 1) w3 st5))))) else (flX3_sum_0  n (i + 1) w3 st3))))
def fX3_sum_0 (st : ow_St) : Int64 × ow_St := (flX3_sum_0  (((st.1 4 0).toNatClampNeg) + 1) 0 (0 : Int64) st)
set_option maxHeartbeats 4000000 in
set_option maxRecDepth 100000 in
theorem kX3_sum_0 (l : Launch) (D : va_G) (ca : Nat → ClassId) (ad : ow_Ad) (A : Nat → Prop) (st : ow_St)  (hz0 : iv_sz st 0) : Met l yX3_sum wsX3_sum ({ frames := 3, cells := 0, slots := 0, locals := 67 }) (va_Pc [.ref (ad 0 0), .int 0] (ow_W D ca ad A st)) (va_Ql (fun r st' => (r, st') = (fX3_sum_0 st)) (ow_B D ca ad) A) 0 0 A := by
  refine Met.ofW (cc := cX3_sum) (maxL := 7) (ret := (some .long)) (by decide) rfl ?_
  intro p e s m args below meth c s₁ B hml hv
  obtain ⟨rfl, hP, hC⟩ := hv
  have hx := B.exec
  have hb := B.bytes
  have hr := B.returns
  have hts := atoms_spec (ws := wsX3_sum) B.pre
  have hown : s.vm.findClass RX3 = some m.cls := findClass_of_methodNamed B.named
  have hlocks := B.notSynchronized
  have hS : va_S A s.heap s.heap [] := va_S.rf
  have hl := lv_entry ([.ref (ad 0 0), .int 0]) (n := 7) (Nat.le_of_ble_eq_true rfl)
  rw [lg_entry_eq]
  generalize (lg_sl ([.ref (ad 0 0), .int 0]) ++ List.replicate (7 - (lg_sl ([.ref (ad 0 0), .int 0])).length) Slot.unset).toArray = ls at hl ⊢
  have hl : lv_has ls 7 [(0, .ref (ad 0 0)), (1, .int 0)] := hl
  have hB30 : ((st.1 4 0).toNatClampNeg) ≤ 30 := (sz_nI hz0).2
  refine lv_aload_n hx hb dX3_sum_0 rfl (lv_at hl 0 rfl) ?_
  refine lv_iload_n hx hb dX3_sum_1 rfl (lv_at hl 1 rfl) ?_
  have c_1 : ((0 : Int32) = 0) := by decide
  refine og_cqS (q := ad 6 0) (og_runV (C := RX3) (T := TX3) (N := 14) (g := 0) (i := 0) (As := [.int 0]) (rest := []) ⟨hx, hb, hml, hown, hts⟩ (kX3_tableNumbered l D ca ad A st 0) (cwV 1 hts gX3_sum_X3_tableNumbered rfl rfl rfl (by decide +kernel) ⟨Nat.le_of_ble_eq_true rfl, Nat.le_of_ble_eq_true rfl⟩) hC hP hS (ow_q0_0) rfl rfl rfl hl.1 rfl (Nat.le_of_ble_eq_true rfl) dX3_sum_2 ⟨Nat.zero_le _, Nat.zero_le _⟩) hS (by first | (simp only [fX3_tableNumbered, if_pos c_1]; done) | simp [fX3_tableNumbered]) (fun H locs hP hS => ?_)
  refine lv_astore_n (lv' := [(2, .ref (ad 6 0)), (0, .ref (ad 0 0)), (1, .int 0)]) hx hb dX3_sum_5 rfl hl (by decide) rfl (fun ls hl => ?_)
  refine lv_aload_n hx hb dX3_sum_6 rfl (lv_at hl 0 rfl) ?_
  refine lv_ifnonnull (tgt := 14) hx hb dX3_sum_7 (by decide) ?_
  refine lv_lconst (v := 0) hx hb dX3_sum_14 rfl ?_
  refine lv_lstore_n (lv' := [(3, .long 0), (2, .ref (ad 6 0)), (0, .ref (ad 0 0)), (1, .int 0)]) hx hb dX3_sum_15 rfl hl (by decide) rfl (fun ls hl => ?_)
  refine lv_iconst (v := 0) hx hb dX3_sum_16 (by decide) ?_
  refine lv_istore (lv' := [(5, .int 0), (3, .long 0), (2, .ref (ad 6 0)), (0, .ref (ad 0 0)), (1, .int 0)]) hx hb dX3_sum_17 hl (by decide) rfl (fun ls hl => ?_)
  have loop : ∀ (n i : Nat) (w3 : Int64) (sv : ow_St) (H : Heap) (locs : List Loc) (ls : Array Slot), i ≤ ((st.1 4 0).toNatClampNeg) → ((st.1 4 0).toNatClampNeg) < i + n → (sv.1 4 0 = nI ((st.1 4 0).toNatClampNeg)) → flX3_sum_0  n i w3 sv = (fX3_sum_0 st) → va_P D vwCl (ow_ws ad (ow_c ca ad sv)) H → va_S A s.heap H locs → lv_has ls 7 [(5, .int (nI i)), (3, .long w3), (2, .ref (ad 6 0)), (0, .ref (ad 0 0)), (1, .int 0)] → W p l e (headSpec wsX3_sum ({ frames := 3, cells := 0, slots := 0, locals := 67 } : Room)).room s m ([.ref (ad 0 0), .int 0] : List Value).toArray below meth c H locs 0 0 (MQ below (va_Ql (fun r st' => (r, st') = (fX3_sum_0 st)) (ow_B D ca ad) A) ([.ref (ad 0 0), .int 0] : List Value).toArray s 0 0 A) (F0 m 19 ls []) := by
    intro n
    induction n with
    | zero => intro i w3 sv H locs ls h1 h2; exact absurd h2 (by omega)
    | succ n ih =>
      intro i w3 sv H locs ls hle hlt hB heq hP hS hl
      refine lv_iload hx hb dX3_sum_19 (lv_at hl 0 rfl) ?_
      refine lv_aload_n hx hb dX3_sum_21 rfl (lv_at hl 2 rfl) ?_
      refine og_getN (C := RX2) (T := TX2) (N := 5) (g := 6) (i := 0) (v := .int (sv.1 4 0)) hx hb hts li_X3_sum_0_X2 hown hC hP (ow_q6_0) rfl rfl 4 (by decide) ln_X3_sum_0_0 rfl rfl dX3_sum_22 ?_
      refine lv_icmp_ge (tgt := 126) hx hb dX3_sum_25 (by decide) (fun c_2 => ?_) (fun c_2 => ?_)
      · refine lv_lload_n hx hb dX3_sum_126 rfl (lv_at hl 1 rfl) ?_
        exact W.lret (v := w3) hx hb hr (fun t ht hW => ⟨⟨w3, sv, rfl, (by rw [← heq]; simp only [flX3_sum_0, if_pos c_2]), ow_Bi ht hP⟩, hS.F ht⟩) hS.2.2 dX3_sum_127
      · refine lv_aload_n hx hb dX3_sum_28 rfl (lv_at hl 3 rfl) ?_
        refine lv_aload_n hx hb dX3_sum_29 rfl (lv_at hl 2 rfl) ?_
        refine lv_iload hx hb dX3_sum_30 (lv_at hl 0 rfl) ?_
        refine og_cvW (og_runV (C := RX3) (T := TX3) (N := 14) (g := 0) (i := 0) (As := [.ref (ad 6 0), .int (nI i)]) (rest := []) ⟨hx, hb, hml, hown, hts⟩ (kX3_draftOf_0 l D ca ad A sv (nI i) ⟨_, hB30, hB⟩) (cwV 2 hts gX3_sum_X3_draftOf rfl rfl rfl (by decide +kernel) ⟨Nat.le_of_ble_eq_true rfl, Nat.le_of_ble_eq_true rfl⟩) hC hP hS (ow_q0_0) rfl rfl rfl hl.1 rfl (Nat.le_of_ble_eq_true rfl) dX3_sum_32 ⟨Nat.zero_le _, Nat.zero_le _⟩) hS (fun H locs hP hS => ?_)
        obtain ⟨st3, e3⟩ : ∃ z, z = (fX3_draftOf_0 sv (nI i)) := ⟨_, rfl⟩
        rw [← e3] at hP
        refine lv_aload_n hx hb dX3_sum_35 rfl (lv_at hl 3 rfl) ?_
        refine lv_aload_n hx hb dX3_sum_36 rfl (lv_at hl 2 rfl) ?_
        refine og_ciP (og_runV (C := RX3) (T := TX3) (N := 14) (g := 0) (i := 0) (As := [.ref (ad 6 0)]) (rest := []) ⟨hx, hb, hml, hown, hts⟩ (kX3_wrongItem_0 l D ca ad A st3) (cwV 1 hts gX3_sum_X3_wrongItem rfl rfl rfl (by decide +kernel) ⟨Nat.le_of_ble_eq_true rfl, Nat.le_of_ble_eq_true rfl⟩) hC hP hS (ow_q0_0) rfl rfl rfl hl.1 rfl (Nat.le_of_ble_eq_true rfl) dX3_sum_37 ⟨Nat.zero_le _, Nat.zero_le _⟩) hS (fun H locs hP hS => ?_)
        refine lv_iconst (v := (-1)) hx hb dX3_sum_40 (by decide) ?_
        refine lv_icmp_ne (tgt := 120) hx hb dX3_sum_41 (by decide) (fun c_4 => ?_) (fun c_4 => ?_)
        · refine lv_iinc (v := (nI (i + 1))) (lv' := [(5, .int (nI (i + 1))), (3, .long w3), (2, .ref (ad 6 0)), (0, .ref (ad 0 0)), (1, .int 0)]) hx hb dX3_sum_120 hl (k := 0) rfl (nI_1 _) (by decide) rfl (fun ls hl => ?_)
          refine lv_goto (tgt := 19) hx hb dX3_sum_123 (by decide) ?_
          exact ih (i + 1) w3 st3 _ _ _ (ow_lt (by rw [← hB]; exact c_2) hle (by omega)) (by omega) (by subst e3; simp (disch := decide) only [ow_si_ne, ak_fr_0, dr_fr_0]; exact hB) (by subst e3; rw [← heq]; simp only [flX3_sum_0, if_neg c_2, if_neg c_4]) hP hS (lv_sub hl [0, 1, 2, 3, 4] rfl)
        · refine lv_aload_n hx hb dX3_sum_44 rfl (lv_at hl 3 rfl) ?_
          refine lv_aload_n hx hb dX3_sum_45 rfl (lv_at hl 2 rfl) ?_
          refine og_getN (C := RX2) (T := TX2) (N := 5) (g := 6) (i := 0) (v := .ref (ad 1 0)) hx hb hts li_X3_sum_0_X2 hown hC hP (ow_q6_0) rfl rfl 0 (by decide) ln_X3_sum_0_2 rfl rfl dX3_sum_46 ?_
          refine lv_aload_n hx hb dX3_sum_49 rfl (lv_at hl 3 rfl) ?_
          refine og_get (C := RX3) (T := TX3) (N := 14) (g := 0) (i := 0) (v := .ref (ad 9 0)) hx hb hts li_X3_sum_0_X3 hown hC hP (ow_q0_0) rfl rfl 9 (by decide) (hts _ lk_X3_sum_0_4) rfl rfl dX3_sum_50 ?_
          refine lv_iconst (v := 0) hx hb dX3_sum_53 (by decide) ?_
          refine og_iald (g := 9) (i := 0) (j := 0) (v := (st3.1 103 0)) hx hb hC hP (ow_q9_0) rfl (by unfold vp_in; decide) rfl rfl dX3_sum_54 ?_
          refine lv_aload_n hx hb dX3_sum_55 rfl (lv_at hl 3 rfl) ?_
          refine og_get (C := RX3) (T := TX3) (N := 14) (g := 0) (i := 0) (v := .ref (ad 9 0)) hx hb hts li_X3_sum_0_X3 hown hC hP (ow_q0_0) rfl rfl 9 (by decide) (hts _ lk_X3_sum_0_4) rfl rfl dX3_sum_56 ?_
          refine lv_aload_n hx hb dX3_sum_59 rfl (lv_at hl 2 rfl) ?_
          refine og_getN (C := RX2) (T := TX2) (N := 5) (g := 6) (i := 0) (v := .int 1) hx hb hts li_X3_sum_0_X2 hown hC hP (ow_q6_0) rfl rfl 2 (by decide) ln_X3_sum_0_5 rfl rfl dX3_sum_60 ?_
          refine og_iald (g := 9) (i := 0) (j := 1) (v := (st3.1 103 1)) hx hb hC hP (ow_q9_0) rfl (by unfold vp_in; decide) rfl rfl dX3_sum_63 ?_
          refine lv_i2l (v := (st3.1 103 1).toInt64) hx hb dX3_sum_64 rfl ?_
          refine og_ciW (og_runV (C := RX3) (T := TX3) (N := 14) (g := 0) (i := 0) (As := [.ref (ad 1 0), .int (st3.1 103 0), .long ((st3.1 103 1).toInt64)]) (rest := []) ⟨hx, hb, hml, hown, hts⟩ (kX3_askRule_0 l D ca ad A st3 (st3.1 103 0) ((st3.1 103 1).toInt64)) (cwV 3 hts gX3_sum_X3_askRule rfl rfl rfl (by decide +kernel) ⟨Nat.le_of_ble_eq_true rfl, Nat.le_of_ble_eq_true rfl⟩) hC hP hS (ow_q0_0) rfl rfl rfl hl.1 rfl (Nat.le_of_ble_eq_true rfl) dX3_sum_65 ⟨Nat.zero_le _, Nat.zero_le _⟩) hS (fun H locs hP hS => ?_)
          obtain ⟨st5, e5⟩ : ∃ z, z = (fX3_askRule_0 st3 (st3.1 103 0) ((st3.1 103 1).toInt64)).2 := ⟨_, rfl⟩
          rw [← e5] at hP
          refine lv_istore (lv' := [(6, .int ((fX3_askRule_0 st3 (st3.1 103 0) ((st3.1 103 1).toInt64)).1)), (5, .int (nI i)), (3, .long w3), (2, .ref (ad 6 0)), (0, .ref (ad 0 0)), (1, .int 0)]) hx hb dX3_sum_68 hl (by decide) rfl (fun ls hl => ?_)
          refine lv_iload hx hb dX3_sum_70 (lv_at hl 0 rfl) ?_
          refine lv_bipush (v := (-8)) hx hb dX3_sum_72 (by decide) ?_
          refine lv_icmp_eq (tgt := 84) hx hb dX3_sum_74 (by decide) (fun c_6 => ?_) (fun c_6 => ?_)
          · refine lv_iload hx hb dX3_sum_84 (lv_at hl 0 rfl) ?_
            refine lv_i2l (v := ((fX3_askRule_0 st3 (st3.1 103 0) ((st3.1 103 1).toInt64)).1).toInt64) hx hb dX3_sum_86 rfl ?_
            exact W.lret (v := (((fX3_askRule_0 st3 (st3.1 103 0) ((st3.1 103 1).toInt64)).1).toInt64)) hx hb hr (fun t ht hW => ⟨⟨(((fX3_askRule_0 st3 (st3.1 103 0) ((st3.1 103 1).toInt64)).1).toInt64), st5, rfl, (by subst e5; subst e3; rw [← heq]; simp only [flX3_sum_0, if_neg c_2, if_pos c_4, if_pos c_6]), ow_Bi ht hP⟩, hS.F ht⟩) hS.2.2 dX3_sum_87
          · refine lv_iload hx hb dX3_sum_77 (lv_at hl 0 rfl) ?_
            refine lv_bipush (v := (-9)) hx hb dX3_sum_79 (by decide) ?_
            refine lv_icmp_ne (tgt := 88) hx hb dX3_sum_81 (by decide) (fun c_7 => ?_) (fun c_7 => ?_)
            · refine lv_iload hx hb dX3_sum_88 (lv_at hl 0 rfl) ?_
              refine lv_iconst (v := 1) hx hb dX3_sum_90 (by decide) ?_
              refine lv_icmp_ne (tgt := 120) hx hb dX3_sum_91 (by decide) (fun c_8 => ?_) (fun c_8 => ?_)
              · refine lv_iinc (v := (nI (i + 1))) (lv' := [(5, .int (nI (i + 1))), (6, .int ((fX3_askRule_0 st3 (st3.1 103 0) ((st3.1 103 1).toInt64)).1)), (3, .long w3), (2, .ref (ad 6 0)), (0, .ref (ad 0 0)), (1, .int 0)]) hx hb dX3_sum_120 hl (k := 1) rfl (nI_1 _) (by decide) rfl (fun ls hl => ?_)
                refine lv_goto (tgt := 19) hx hb dX3_sum_123 (by decide) ?_
                exact ih (i + 1) w3 st5 _ _ _ (ow_lt (by rw [← hB]; exact c_2) hle (by omega)) (by omega) (by subst e5; subst e3; simp (disch := decide) only [ow_si_ne, ak_fr_0, dr_fr_0]; exact hB) (by subst e5; subst e3; rw [← heq]; simp only [flX3_sum_0, if_neg c_2, if_pos c_4, if_neg c_6, if_neg c_7, if_neg c_8]) hP hS (lv_sub hl [0, 2, 3, 4, 5] rfl)
              · refine lv_lload_n hx hb dX3_sum_94 rfl (lv_at hl 2 rfl) ?_
                refine lv_aload_n hx hb dX3_sum_95 rfl (lv_at hl 3 rfl) ?_
                refine og_getN (C := RX2) (T := TX2) (N := 5) (g := 6) (i := 0) (v := .ref (ad 1 0)) hx hb hts li_X3_sum_0_X2 hown hC hP (ow_q6_0) rfl rfl 0 (by decide) ln_X3_sum_0_2 rfl rfl dX3_sum_96 ?_
                refine lv_aload_n hx hb dX3_sum_99 rfl (lv_at hl 4 rfl) ?_
                refine og_get (C := RX3) (T := TX3) (N := 14) (g := 0) (i := 0) (v := .ref (ad 9 0)) hx hb hts li_X3_sum_0_X3 hown hC hP (ow_q0_0) rfl rfl 9 (by decide) (hts _ lk_X3_sum_0_4) rfl rfl dX3_sum_100 ?_
                refine lv_iconst (v := 0) hx hb dX3_sum_103 (by decide) ?_
                refine og_iald (g := 9) (i := 0) (j := 0) (v := (st5.1 103 0)) hx hb hC hP (ow_q9_0) rfl (by unfold vp_in; decide) rfl rfl dX3_sum_104 ?_
                refine lv_aload_n hx hb dX3_sum_105 rfl (lv_at hl 4 rfl) ?_
                refine og_get (C := RX3) (T := TX3) (N := 14) (g := 0) (i := 0) (v := .ref (ad 9 0)) hx hb hts li_X3_sum_0_X3 hown hC hP (ow_q0_0) rfl rfl 9 (by decide) (hts _ lk_X3_sum_0_4) rfl rfl dX3_sum_106 ?_
                refine lv_aload_n hx hb dX3_sum_109 rfl (lv_at hl 3 rfl) ?_
                refine og_getN (C := RX2) (T := TX2) (N := 5) (g := 6) (i := 0) (v := .int 1) hx hb hts li_X3_sum_0_X2 hown hC hP (ow_q6_0) rfl rfl 2 (by decide) ln_X3_sum_0_5 rfl rfl dX3_sum_110 ?_
                refine og_iald (g := 9) (i := 0) (j := 1) (v := (st5.1 103 1)) hx hb hC hP (ow_q9_0) rfl (by unfold vp_in; decide) rfl rfl dX3_sum_113 ?_
                refine lv_i2l (v := (st5.1 103 1).toInt64) hx hb dX3_sum_114 rfl ?_
                refine og_clP (og_runS (As := [.ref (ad 1 0), .int (st5.1 103 0), .long ((st5.1 103 1).toInt64)]) (rest := [.long w3]) ⟨hx, hb, hml, hown, hts⟩ (kX3_valueOf_0 l D ca ad A st5 (st5.1 103 0) ((st5.1 103 1).toInt64)) (va_cwS 3 hts gX3_sum_X3_valueOf rfl rfl rfl (by decide +kernel) ⟨Nat.le_of_ble_eq_true rfl, Nat.le_of_ble_eq_true rfl⟩) hC hP hS rfl hl.1 rfl (Nat.le_of_ble_eq_true rfl) dX3_sum_115 ⟨Nat.zero_le _, Nat.zero_le _⟩) hS (fun H locs hP hS => ?_)
                refine lv_ladd hx hb dX3_sum_118 ?_
                refine lv_lstore_n (lv' := [(3, .long (w3 + (fX3_valueOf_0 st5 (st5.1 103 0) ((st5.1 103 1).toInt64)))), (6, .int ((fX3_askRule_0 st3 (st3.1 103 0) ((st3.1 103 1).toInt64)).1)), (5, .int (nI i)), (2, .ref (ad 6 0)), (0, .ref (ad 0 0)), (1, .int 0)]) hx hb dX3_sum_119 rfl hl (by decide) rfl (fun ls hl => ?_)
                refine lv_iinc (v := (nI (i + 1))) (lv' := [(5, .int (nI (i + 1))), (3, .long (w3 + (fX3_valueOf_0 st5 (st5.1 103 0) ((st5.1 103 1).toInt64)))), (6, .int ((fX3_askRule_0 st3 (st3.1 103 0) ((st3.1 103 1).toInt64)).1)), (2, .ref (ad 6 0)), (0, .ref (ad 0 0)), (1, .int 0)]) hx hb dX3_sum_120 hl (k := 2) rfl (nI_1 _) (by decide) rfl (fun ls hl => ?_)
                refine lv_goto (tgt := 19) hx hb dX3_sum_123 (by decide) ?_
                exact ih (i + 1) (w3 + (fX3_valueOf_0 st5 (st5.1 103 0) ((st5.1 103 1).toInt64))) st5 _ _ _ (ow_lt (by rw [← hB]; exact c_2) hle (by omega)) (by omega) (by subst e5; subst e3; simp (disch := decide) only [ow_si_ne, ak_fr_0, dr_fr_0]; exact hB) (by subst e5; subst e3; rw [← heq]; simp only [flX3_sum_0, if_neg c_2, if_pos c_4, if_neg c_6, if_neg c_7, if_pos c_8]) hP hS (lv_sub hl [0, 1, 3, 4, 5] rfl)
            · refine lv_iload hx hb dX3_sum_84 (lv_at hl 0 rfl) ?_
              refine lv_i2l (v := ((fX3_askRule_0 st3 (st3.1 103 0) ((st3.1 103 1).toInt64)).1).toInt64) hx hb dX3_sum_86 rfl ?_
              exact W.lret (v := (((fX3_askRule_0 st3 (st3.1 103 0) ((st3.1 103 1).toInt64)).1).toInt64)) hx hb hr (fun t ht hW => ⟨⟨(((fX3_askRule_0 st3 (st3.1 103 0) ((st3.1 103 1).toInt64)).1).toInt64), st5, rfl, (by subst e5; subst e3; rw [← heq]; simp only [flX3_sum_0, if_neg c_2, if_pos c_4, if_neg c_6, if_pos c_7]), ow_Bi ht hP⟩, hS.F ht⟩) hS.2.2 dX3_sum_87
  exact loop (((st.1 4 0).toNatClampNeg) + 1) 0 (0 : Int64) st _ _ _ (Nat.zero_le _) (by omega) (sz_nI hz0).1 (by simp only [fX3_sum_0]) hP hS (lv_sub hl [0, 1, 2, 3, 4] rfl)

theorem ln_X3_filter_1_0 : (.methodLinkNest RX3 181 yX2_hasItem "RecordLabels" : Cond) ∈ ow_nest := by decide +kernel
theorem lk_X3_filter_1_1 : (.initialized RX2 : Cond) ∈ wsX3_filter := by decide +kernel
theorem lk_X3_filter_1_2 : (.instanceMethod yX2_hasItem : Cond) ∈ wsX3_filter := by decide +kernel
theorem lk_X3_filter_1_3 : (.selects RX2 yX2_hasItem yX2_hasItem : Cond) ∈ wsX3_filter := by decide +kernel
theorem ln_X3_filter_1_4 : (.fieldLinkNest RX3 140 "RecordLabels$LabelSet" "kind" "LRecordLabels$Kind;" "RecordLabels" : Cond) ∈ ow_nest := by decide +kernel
theorem li_X3_filter_1_X1 : ∀ w ∈ u_ws RX1 TX1 2, w ∈ wsX3_filter := by decide +kernel
theorem ln_X3_filter_1_6 : (.fieldLinkNest RX3 192 "RecordLabels$Table" "kind" "LRecordLabels$Kind;" "RecordLabels" : Cond) ∈ ow_nest := by decide +kernel
theorem li_X3_filter_1_X2 : ∀ w ∈ u_ws RX2 TX2 5, w ∈ wsX3_filter := by decide +kernel
theorem lk_X3_filter_1_8 : (.fieldLink RX3 76 "RecordLabels" "foundSize" "I" : Cond) ∈ wsX3_filter := by decide +kernel
theorem li_X3_filter_1_X3 : ∀ w ∈ u_ws RX3 TX3 14, w ∈ wsX3_filter := by decide +kernel
theorem ln_X3_filter_1_10 : (.fieldLinkNest RX3 162 "RecordLabels$Table" "size" "I" "RecordLabels" : Cond) ∈ ow_nest := by decide +kernel
theorem lk_X3_filter_1_11 : (.fieldLink RX3 63 "RecordLabels" "draft" "[I" : Cond) ∈ wsX3_filter := by decide +kernel
theorem ln_X3_filter_1_12 : (.methodLinkNest RX3 143 yX1_holds "RecordLabels" : Cond) ∈ ow_nest := by decide +kernel
theorem lk_X3_filter_1_13 : (.initialized RX1 : Cond) ∈ wsX3_filter := by decide +kernel
theorem lk_X3_filter_1_14 : (.instanceMethod yX1_holds : Cond) ∈ wsX3_filter := by decide +kernel
theorem lk_X3_filter_1_15 : (.selects RX1 yX1_holds yX1_holds : Cond) ∈ wsX3_filter := by decide +kernel
def flX3_filter_1 (x2 x3 x4 x5 : Int32) : Nat → Nat → ow_St → Int32 × ow_St
  | 0, _, sv => (0, sv)
  | n + 1, i, sv => (if (sv.1 4 1) ≤ (nI i) then ((sv.1 0 2), sv) else (let st9 := (fX3_draftOf_1 sv (nI i)); (if (fX3_wrongItem_1 st9) = (-1) then (if (fX1_holds st9 x2.toNatClampNeg (st9.1 103 0)) = 0 then (flX3_filter_1 x2 x3 x4 x5 n (i + 1)  st9) else (if (fX3_isFromTo st9 (fX3_fromCell_1 st9 x3 (st9.1 103 x3.toNatClampNeg)) x4 x5) = 0 then (flX3_filter_1 x2 x3 x4 x5 n (i + 1)  st9) else (let st13 := (fX3_keepFound st9 (nI i)); (flX3_filter_1 x2 x3 x4 x5 n (i + 1)  st13)))) else (flX3_filter_1 x2 x3 x4 x5 n (i + 1)  st9))))
def fX3_filter_1 (st : ow_St) (x2 x3 x4 x5 : Int32) : Int32 × ow_St := (if x2 < 0 ∨ 10 ≤ x2 then ((-1), st) else (if x3 = 0 then ((-1), st) else (if (fX2_hasItem_1 st x3) = 0 then ((-1), st) else (if (st.2.2 (x2.toNatClampNeg + 1)) = 1 then (let st7 := (ow_si st 0 2 0); (flX3_filter_1 x2 x3 x4 x5 (((st.1 4 1).toNatClampNeg) + 1) 0  st7)) else ((-3), st)))))
set_option maxHeartbeats 4000000 in
set_option maxRecDepth 100000 in
theorem kX3_filter_1 (l : Launch) (D : va_G) (ca : Nat → ClassId) (ad : ow_Ad) (A : Nat → Prop) (st : ow_St) (x2 : Int32) (x3 : Int32) (x4 : Int32) (x5 : Int32) (hz1 : iv_sz st 1) (hsk : iv_sk st) : Met l yX3_filter wsX3_filter ({ frames := 3, cells := 0, slots := 0, locals := 67 }) (va_Pc [.ref (ad 0 0), .int 1, .int x2, .int x3, .int x4, .int x5] (ow_W D ca ad A st)) (va_Qi (fun r st' => (r, st') = (fX3_filter_1 st x2 x3 x4 x5)) (ow_B D ca ad) A) 0 0 A := by
  refine Met.ofW (cc := cX3_filter) (maxL := 10) (ret := (some .int)) (by decide) rfl ?_
  intro p e s m args below meth c s₁ B hml hv
  obtain ⟨rfl, hP, hC⟩ := hv
  have hx := B.exec
  have hb := B.bytes
  have hr := B.returns
  have hts := atoms_spec (ws := wsX3_filter) B.pre
  have hown : s.vm.findClass RX3 = some m.cls := findClass_of_methodNamed B.named
  have hlocks := B.notSynchronized
  have hS : va_S A s.heap s.heap [] := va_S.rf
  have hl := lv_entry ([.ref (ad 0 0), .int 1, .int x2, .int x3, .int x4, .int x5]) (n := 10) (Nat.le_of_ble_eq_true rfl)
  rw [lg_entry_eq]
  generalize (lg_sl ([.ref (ad 0 0), .int 1, .int x2, .int x3, .int x4, .int x5]) ++ List.replicate (10 - (lg_sl ([.ref (ad 0 0), .int 1, .int x2, .int x3, .int x4, .int x5])).length) Slot.unset).toArray = ls at hl ⊢
  have hl : lv_has ls 10 [(0, .ref (ad 0 0)), (1, .int 1), (2, .int x2), (3, .int x3), (4, .int x4), (5, .int x5)] := hl
  have hB30 : ((st.1 4 1).toNatClampNeg) ≤ 30 := (sz_nI hz1).2
  refine lv_aload_n hx hb dX3_filter_0 rfl (lv_at hl 0 rfl) ?_
  refine lv_iload_n hx hb dX3_filter_1 rfl (lv_at hl 1 rfl) ?_
  have c_1 : ¬ ((1 : Int32) = 0) := by decide
  have c_2 : ((1 : Int32) = 1) := by decide
  refine og_cqS (q := ad 6 1) (og_runV (C := RX3) (T := TX3) (N := 14) (g := 0) (i := 0) (As := [.int 1]) (rest := []) ⟨hx, hb, hml, hown, hts⟩ (kX3_tableNumbered l D ca ad A st 1) (cwV 1 hts gX3_filter_X3_tableNumbered rfl rfl rfl (by decide +kernel) ⟨Nat.le_of_ble_eq_true rfl, Nat.le_of_ble_eq_true rfl⟩) hC hP hS (ow_q0_0) rfl rfl rfl hl.1 rfl (Nat.le_of_ble_eq_true rfl) dX3_filter_2 ⟨Nat.zero_le _, Nat.zero_le _⟩) hS (by first | (simp only [fX3_tableNumbered, if_neg c_1, if_pos c_2]; done) | simp [fX3_tableNumbered]) (fun H locs hP hS => ?_)
  refine lv_astore (lv' := [(6, .ref (ad 6 1)), (0, .ref (ad 0 0)), (1, .int 1), (2, .int x2), (3, .int x3), (4, .int x4), (5, .int x5)]) hx hb dX3_filter_5 hl (by decide) rfl (fun ls hl => ?_)
  refine lv_aload_n hx hb dX3_filter_7 rfl (lv_at hl 1 rfl) ?_
  refine lv_iload_n hx hb dX3_filter_8 rfl (lv_at hl 3 rfl) ?_
  by_cases c_3 : x2 < 0 ∨ 10 ≤ x2
  · refine og_cqN (og_runV (C := RX3) (T := TX3) (N := 14) (g := 0) (i := 0) (As := [.int x2]) (rest := []) ⟨hx, hb, hml, hown, hts⟩ (kX3_setNumbered l D ca ad A st x2) (cwV 1 hts gX3_filter_X3_setNumbered rfl rfl rfl (by decide +kernel) ⟨Nat.le_of_ble_eq_true rfl, Nat.le_of_ble_eq_true rfl⟩) hC hP hS (ow_q0_0) rfl rfl rfl hl.1 rfl (Nat.le_of_ble_eq_true rfl) dX3_filter_9 ⟨Nat.zero_le _, Nat.zero_le _⟩) hS (setN_none c_3) (fun H locs hP hS => ?_)
    refine lv_astoreN (lv' := [(7, .null), (6, .ref (ad 6 1)), (0, .ref (ad 0 0)), (1, .int 1), (2, .int x2), (3, .int x3), (4, .int x4), (5, .int x5)]) hx hb dX3_filter_12 hl (by decide) rfl (fun ls hl => ?_)
    refine lv_aload hx hb dX3_filter_14 (lv_at hl 1 rfl) ?_
    refine lv_ifnull hx hb dX3_filter_16 ?_
    refine lv_aloadN hx hb dX3_filter_19 (lv_at hl 0 rfl) ?_
    refine lv_ifnullN (tgt := 37) hx hb dX3_filter_21 (by decide) ?_
    refine lv_iconst (v := (-1)) hx hb dX3_filter_37 (by decide) ?_
    exact W.iret (v := (-1)) hx hb hr (fun t ht hW => ⟨⟨(-1), st, rfl, (by simp only [fX3_filter_1, if_pos c_3]), ow_Bi ht hP⟩, hS.F ht⟩) hS.2.2 dX3_filter_38
  · refine og_cqS (q := ad 5 x2.toNatClampNeg) (og_runV (C := RX3) (T := TX3) (N := 14) (g := 0) (i := 0) (As := [.int x2]) (rest := []) ⟨hx, hb, hml, hown, hts⟩ (kX3_setNumbered l D ca ad A st x2) (cwV 1 hts gX3_filter_X3_setNumbered rfl rfl rfl (by decide +kernel) ⟨Nat.le_of_ble_eq_true rfl, Nat.le_of_ble_eq_true rfl⟩) hC hP hS (ow_q0_0) rfl rfl rfl hl.1 rfl (Nat.le_of_ble_eq_true rfl) dX3_filter_9 ⟨Nat.zero_le _, Nat.zero_le _⟩) hS (setN_some c_3) (fun H locs hP hS => ?_)
    refine lv_astore (lv' := [(7, .ref (ad 5 x2.toNatClampNeg)), (6, .ref (ad 6 1)), (0, .ref (ad 0 0)), (1, .int 1), (2, .int x2), (3, .int x3), (4, .int x4), (5, .int x5)]) hx hb dX3_filter_12 hl (by decide) rfl (fun ls hl => ?_)
    refine lv_aload hx hb dX3_filter_14 (lv_at hl 1 rfl) ?_
    refine lv_ifnull hx hb dX3_filter_16 ?_
    refine lv_aload hx hb dX3_filter_19 (lv_at hl 0 rfl) ?_
    refine lv_ifnull hx hb dX3_filter_21 ?_
    refine lv_iload_n hx hb dX3_filter_24 rfl (lv_at hl 5 rfl) ?_
    refine lv_if_eq (tgt := 37) hx hb dX3_filter_25 (by decide) (fun c_4 => ?_) (fun c_4 => ?_)
    · refine lv_iconst (v := (-1)) hx hb dX3_filter_37 (by decide) ?_
      exact W.iret (v := (-1)) hx hb hr (fun t ht hW => ⟨⟨(-1), st, rfl, (by simp only [fX3_filter_1, if_neg c_3, if_pos c_4]), ow_Bi ht hP⟩, hS.F ht⟩) hS.2.2 dX3_filter_38
    · refine lv_aload hx hb dX3_filter_28 (lv_at hl 1 rfl) ?_
      refine lv_iload_n hx hb dX3_filter_30 rfl (lv_at hl 5 rfl) ?_
      refine og_ciP (og_runVN (C := RX2) (T := TX2) (N := 5) (g := 6) (i := 1) (As := [.int x3]) (rest := []) ⟨hx, hb, hml, hown, hts⟩ (kX2_hasItem_1 l D ca ad A st x3) ⟨va_cnB 1 hts gX3_filter_X2_hasItem_n181 rfl rfl rfl (hC.2.2.1 _ ln_X3_filter_1_0) (hts _ lk_X3_filter_1_1) (by decide +kernel) ⟨Nat.le_of_ble_eq_true rfl, Nat.le_of_ble_eq_true rfl⟩, (hts _ lk_X3_filter_1_2), (hts _ lk_X3_filter_1_3)⟩ hC hP hS (ow_q6_1) rfl rfl rfl hl.1 rfl (Nat.le_of_ble_eq_true rfl) dX3_filter_31 ⟨Nat.zero_le _, Nat.zero_le _⟩) hS (fun H locs hP hS => ?_)
      refine lv_if_ne (tgt := 39) hx hb dX3_filter_34 (by decide) (fun c_5 => ?_) (fun c_5 => ?_)
      · refine lv_aload hx hb dX3_filter_39 (lv_at hl 0 rfl) ?_
        refine og_getN (C := RX1) (T := TX1) (N := 2) (g := 5) (i := x2.toNatClampNeg) (v := .ref (ad 1 (st.2.2 (x2.toNatClampNeg + 1)))) hx hb hts li_X3_filter_1_X1 hown hC hP (ow_m5 (setN_b c_3)) rfl rfl 0 (by decide) ln_X3_filter_1_4 rfl rfl dX3_filter_41 ?_
        refine lv_aload hx hb dX3_filter_44 (lv_at hl 1 rfl) ?_
        refine og_getN (C := RX2) (T := TX2) (N := 5) (g := 6) (i := 1) (v := .ref (ad 1 1)) hx hb hts li_X3_filter_1_X2 hown hC hP (ow_q6_1) rfl rfl 0 (by decide) ln_X3_filter_1_6 rfl rfl dX3_filter_46 ?_
        by_cases c_6 : (st.2.2 (x2.toNatClampNeg + 1)) = 1
        · refine lv_acmp_eq (rx := some (ad 1 (st.2.2 (x2.toNatClampNeg + 1)))) (ry := some (ad 1 1)) (tgt := 55) hx hb dX3_filter_49 (by decide) (fun _ => ?_) (fun c => absurd (congrArg some (congrArg (ad 1) c_6)) c)
          refine lv_aload_n hx hb dX3_filter_55 rfl (lv_at hl 2 rfl) ?_
          refine lv_iconst (v := 0) hx hb dX3_filter_56 (by decide) ?_
          refine og_put (C := RX3) (T := TX3) (N := 14) (g := 0) (i := 0) (v := .int 0) (ty := .int) hx hb hts li_X3_filter_1_X3 tyX3 tyX3_ok nmX3 hown hC hP hS (ow_q0_0) rfl rfl 13 (by decide) (hts _ lk_X3_filter_1_8) rfl rfl (by decide +kernel) rfl rfl (Nat.le_of_ble_eq_true rfl) (we_0_2 st 0) dX3_filter_57 (fun H locs hP hS => ?_)
          obtain ⟨st7, e7⟩ : ∃ z, z = (ow_si st 0 2 0) := ⟨_, rfl⟩
          rw [← e7] at hP
          refine lv_iconst (v := 0) hx hb dX3_filter_60 (by decide) ?_
          refine lv_istore (lv' := [(8, .int 0), (7, .ref (ad 5 x2.toNatClampNeg)), (6, .ref (ad 6 1)), (0, .ref (ad 0 0)), (1, .int 1), (2, .int x2), (3, .int x3), (4, .int x4), (5, .int x5)]) hx hb dX3_filter_61 hl (by decide) rfl (fun ls hl => ?_)
          have loop : ∀ (n i : Nat) (sv : ow_St) (H : Heap) (locs : List Loc) (ls : Array Slot), i ≤ ((st.1 4 1).toNatClampNeg) → ((st.1 4 1).toNatClampNeg) < i + n → (sv.1 4 1 = nI ((st.1 4 1).toNatClampNeg)) → (sv.2 = st.2) → (∃ m, m ≤ i ∧ sv.1 0 2 = nI m) → flX3_filter_1 x2 x3 x4 x5 n i sv = (fX3_filter_1 st x2 x3 x4 x5) → va_P D vwCl (ow_ws ad (ow_c ca ad sv)) H → va_S A s.heap H locs → lv_has ls 10 [(8, .int (nI i)), (7, .ref (ad 5 x2.toNatClampNeg)), (6, .ref (ad 6 1)), (0, .ref (ad 0 0)), (1, .int 1), (2, .int x2), (3, .int x3), (4, .int x4), (5, .int x5)] → W p l e (headSpec wsX3_filter ({ frames := 3, cells := 0, slots := 0, locals := 67 } : Room)).room s m ([.ref (ad 0 0), .int 1, .int x2, .int x3, .int x4, .int x5] : List Value).toArray below meth c H locs 0 0 (MQ below (va_Qi (fun r st' => (r, st') = (fX3_filter_1 st x2 x3 x4 x5)) (ow_B D ca ad) A) ([.ref (ad 0 0), .int 1, .int x2, .int x3, .int x4, .int x5] : List Value).toArray s 0 0 A) (F0 m 63 ls []) := by
            intro n
            induction n with
            | zero => intro i sv H locs ls h1 h2; exact absurd h2 (by omega)
            | succ n ih =>
              intro i sv H locs ls hle hlt hB hR hM heq hP hS hl
              refine lv_iload hx hb dX3_filter_63 (lv_at hl 0 rfl) ?_
              refine lv_aload hx hb dX3_filter_65 (lv_at hl 2 rfl) ?_
              refine og_getN (C := RX2) (T := TX2) (N := 5) (g := 6) (i := 1) (v := .int (sv.1 4 1)) hx hb hts li_X3_filter_1_X2 hown hC hP (ow_q6_1) rfl rfl 4 (by decide) ln_X3_filter_1_10 rfl rfl dX3_filter_67 ?_
              refine lv_icmp_ge (tgt := 144) hx hb dX3_filter_70 (by decide) (fun c_8 => ?_) (fun c_8 => ?_)
              · refine lv_aload_n hx hb dX3_filter_144 rfl (lv_at hl 3 rfl) ?_
                refine og_get (C := RX3) (T := TX3) (N := 14) (g := 0) (i := 0) (v := .int (sv.1 0 2)) hx hb hts li_X3_filter_1_X3 hown hC hP (ow_q0_0) rfl rfl 13 (by decide) (hts _ lk_X3_filter_1_8) rfl rfl dX3_filter_145 ?_
                exact W.iret (v := (sv.1 0 2)) hx hb hr (fun t ht hW => ⟨⟨(sv.1 0 2), sv, rfl, (by rw [← heq]; simp only [flX3_filter_1, if_pos c_8]), ow_Bi ht hP⟩, hS.F ht⟩) hS.2.2 dX3_filter_148
              · refine lv_aload_n hx hb dX3_filter_73 rfl (lv_at hl 3 rfl) ?_
                refine lv_aload hx hb dX3_filter_74 (lv_at hl 2 rfl) ?_
                refine lv_iload hx hb dX3_filter_76 (lv_at hl 0 rfl) ?_
                refine og_cvW (og_runV (C := RX3) (T := TX3) (N := 14) (g := 0) (i := 0) (As := [.ref (ad 6 1), .int (nI i)]) (rest := []) ⟨hx, hb, hml, hown, hts⟩ (kX3_draftOf_1 l D ca ad A sv (nI i) ⟨_, hB30, hB⟩) (cwV 2 hts gX3_filter_X3_draftOf rfl rfl rfl (by decide +kernel) ⟨Nat.le_of_ble_eq_true rfl, Nat.le_of_ble_eq_true rfl⟩) hC hP hS (ow_q0_0) rfl rfl rfl hl.1 rfl (Nat.le_of_ble_eq_true rfl) dX3_filter_78 ⟨Nat.zero_le _, Nat.zero_le _⟩) hS (fun H locs hP hS => ?_)
                obtain ⟨st9, e9⟩ : ∃ z, z = (fX3_draftOf_1 sv (nI i)) := ⟨_, rfl⟩
                rw [← e9] at hP
                refine lv_aload_n hx hb dX3_filter_81 rfl (lv_at hl 3 rfl) ?_
                refine lv_aload hx hb dX3_filter_82 (lv_at hl 2 rfl) ?_
                refine lv_iload_n hx hb dX3_filter_84 rfl (lv_at hl 6 rfl) ?_
                refine lv_aload_n hx hb dX3_filter_85 rfl (lv_at hl 3 rfl) ?_
                refine og_get (C := RX3) (T := TX3) (N := 14) (g := 0) (i := 0) (v := .ref (ad 9 0)) hx hb hts li_X3_filter_1_X3 hown hC hP (ow_q0_0) rfl rfl 9 (by decide) (hts _ lk_X3_filter_1_11) rfl rfl dX3_filter_86 ?_
                refine lv_iload_n hx hb dX3_filter_89 rfl (lv_at hl 6 rfl) ?_
                refine og_iald (g := 9) (i := 0) (j := x3.toNatClampNeg) (v := (st9.1 103 x3.toNatClampNeg)) hx hb hC hP (ow_q9_0) rfl (itm_in_1 c_5) rfl rfl dX3_filter_90 ?_
                refine og_ciP (og_runV (C := RX3) (T := TX3) (N := 14) (g := 0) (i := 0) (As := [.ref (ad 6 1), .int x3, .int (st9.1 103 x3.toNatClampNeg)]) (rest := []) ⟨hx, hb, hml, hown, hts⟩ (kX3_fromCell_1 l D ca ad A st9 x3 (st9.1 103 x3.toNatClampNeg)) (cwV 3 hts gX3_filter_X3_fromCell rfl rfl rfl (by decide +kernel) ⟨Nat.le_of_ble_eq_true rfl, Nat.le_of_ble_eq_true rfl⟩) hC hP hS (ow_q0_0) rfl rfl rfl hl.1 rfl (Nat.le_of_ble_eq_true rfl) dX3_filter_91 ⟨Nat.zero_le _, Nat.zero_le _⟩) hS (fun H locs hP hS => ?_)
                refine lv_istore (lv' := [(9, .int (fX3_fromCell_1 st9 x3 (st9.1 103 x3.toNatClampNeg))), (8, .int (nI i)), (7, .ref (ad 5 x2.toNatClampNeg)), (6, .ref (ad 6 1)), (0, .ref (ad 0 0)), (1, .int 1), (2, .int x2), (3, .int x3), (4, .int x4), (5, .int x5)]) hx hb dX3_filter_94 hl (by decide) rfl (fun ls hl => ?_)
                refine lv_aload_n hx hb dX3_filter_96 rfl (lv_at hl 4 rfl) ?_
                refine lv_aload hx hb dX3_filter_97 (lv_at hl 3 rfl) ?_
                refine og_ciP (og_runV (C := RX3) (T := TX3) (N := 14) (g := 0) (i := 0) (As := [.ref (ad 6 1)]) (rest := []) ⟨hx, hb, hml, hown, hts⟩ (kX3_wrongItem_1 l D ca ad A st9) (cwV 1 hts gX3_filter_X3_wrongItem rfl rfl rfl (by decide +kernel) ⟨Nat.le_of_ble_eq_true rfl, Nat.le_of_ble_eq_true rfl⟩) hC hP hS (ow_q0_0) rfl rfl rfl hl.1 rfl (Nat.le_of_ble_eq_true rfl) dX3_filter_99 ⟨Nat.zero_le _, Nat.zero_le _⟩) hS (fun H locs hP hS => ?_)
                refine lv_iconst (v := (-1)) hx hb dX3_filter_102 (by decide) ?_
                refine lv_icmp_ne (tgt := 138) hx hb dX3_filter_103 (by decide) (fun c_10 => ?_) (fun c_10 => ?_)
                · refine lv_iinc (v := (nI (i + 1))) (lv' := [(8, .int (nI (i + 1))), (9, .int (fX3_fromCell_1 st9 x3 (st9.1 103 x3.toNatClampNeg))), (7, .ref (ad 5 x2.toNatClampNeg)), (6, .ref (ad 6 1)), (0, .ref (ad 0 0)), (1, .int 1), (2, .int x2), (3, .int x3), (4, .int x4), (5, .int x5)]) hx hb dX3_filter_138 hl (k := 1) rfl (nI_1 _) (by decide) rfl (fun ls hl => ?_)
                  refine lv_goto (tgt := 63) hx hb dX3_filter_141 (by decide) ?_
                  exact ih (i + 1)  st9 _ _ _ (ow_lt (by rw [← hB]; exact c_8) hle (by omega)) (by omega) (by subst e9; simp (disch := decide) only [kf_fr, dr_fr_1]; exact hB) (by subst e9; exact dr_rf_1.trans hR) (by subst e9; obtain ⟨m, hm, em⟩ := hM; exact ⟨m, by omega, (dr_fr_1 (by decide)).trans em⟩) (by subst e9; rw [← heq]; simp only [flX3_filter_1, if_neg c_8, if_neg c_10]) hP hS (lv_sub hl [0, 2, 3, 4, 5, 6, 7, 8, 9] rfl)
                · refine lv_aload hx hb dX3_filter_106 (lv_at hl 2 rfl) ?_
                  refine lv_aload_n hx hb dX3_filter_108 rfl (lv_at hl 4 rfl) ?_
                  refine og_get (C := RX3) (T := TX3) (N := 14) (g := 0) (i := 0) (v := .ref (ad 9 0)) hx hb hts li_X3_filter_1_X3 hown hC hP (ow_q0_0) rfl rfl 9 (by decide) (hts _ lk_X3_filter_1_11) rfl rfl dX3_filter_109 ?_
                  refine lv_iconst (v := 0) hx hb dX3_filter_112 (by decide) ?_
                  refine og_iald (g := 9) (i := 0) (j := 0) (v := (st9.1 103 0)) hx hb hC hP (ow_q9_0) rfl (by unfold vp_in; decide) rfl rfl dX3_filter_113 ?_
                  refine og_ciP (og_runVN (C := RX1) (T := TX1) (N := 2) (g := 5) (i := x2.toNatClampNeg) (As := [.int (st9.1 103 0)]) (rest := []) ⟨hx, hb, hml, hown, hts⟩ (kX1_holds l D ca ad A st9 x2.toNatClampNeg (setN_b c_3) (by subst e9; rw [dr_rf_1, hR]; exact hsk _ (setN_b c_3)) (st9.1 103 0)) ⟨va_cnB 1 hts gX3_filter_X1_holds_n143 rfl rfl rfl (hC.2.2.1 _ ln_X3_filter_1_12) (hts _ lk_X3_filter_1_13) (by decide +kernel) ⟨Nat.le_of_ble_eq_true rfl, Nat.le_of_ble_eq_true rfl⟩, (hts _ lk_X3_filter_1_14), (hts _ lk_X3_filter_1_15)⟩ hC hP hS (ow_m5 (setN_b c_3)) rfl rfl rfl hl.1 rfl (Nat.le_of_ble_eq_true rfl) dX3_filter_114 ⟨Nat.zero_le _, Nat.zero_le _⟩) hS (fun H locs hP hS => ?_)
                  refine lv_if_eq (tgt := 138) hx hb dX3_filter_117 (by decide) (fun c_11 => ?_) (fun c_11 => ?_)
                  · refine lv_iinc (v := (nI (i + 1))) (lv' := [(8, .int (nI (i + 1))), (9, .int (fX3_fromCell_1 st9 x3 (st9.1 103 x3.toNatClampNeg))), (7, .ref (ad 5 x2.toNatClampNeg)), (6, .ref (ad 6 1)), (0, .ref (ad 0 0)), (1, .int 1), (2, .int x2), (3, .int x3), (4, .int x4), (5, .int x5)]) hx hb dX3_filter_138 hl (k := 1) rfl (nI_1 _) (by decide) rfl (fun ls hl => ?_)
                    refine lv_goto (tgt := 63) hx hb dX3_filter_141 (by decide) ?_
                    exact ih (i + 1)  st9 _ _ _ (ow_lt (by rw [← hB]; exact c_8) hle (by omega)) (by omega) (by subst e9; simp (disch := decide) only [kf_fr, dr_fr_1]; exact hB) (by subst e9; exact dr_rf_1.trans hR) (by subst e9; obtain ⟨m, hm, em⟩ := hM; exact ⟨m, by omega, (dr_fr_1 (by decide)).trans em⟩) (by subst e9; rw [← heq]; simp only [flX3_filter_1, if_neg c_8, if_pos c_10, if_pos c_11]) hP hS (lv_sub hl [0, 2, 3, 4, 5, 6, 7, 8, 9] rfl)
                  · refine lv_iload hx hb dX3_filter_120 (lv_at hl 0 rfl) ?_
                    refine lv_iload hx hb dX3_filter_122 (lv_at hl 8 rfl) ?_
                    refine lv_iload hx hb dX3_filter_124 (lv_at hl 9 rfl) ?_
                    refine og_ciP (og_runS (As := [.int (fX3_fromCell_1 st9 x3 (st9.1 103 x3.toNatClampNeg)), .int x4, .int x5]) (rest := []) ⟨hx, hb, hml, hown, hts⟩ (kX3_isFromTo l D ca ad A st9 (fX3_fromCell_1 st9 x3 (st9.1 103 x3.toNatClampNeg)) x4 x5) (va_cwS 3 hts gX3_filter_X3_isFromTo rfl rfl rfl (by decide +kernel) ⟨Nat.le_of_ble_eq_true rfl, Nat.le_of_ble_eq_true rfl⟩) hC hP hS rfl hl.1 rfl (Nat.le_of_ble_eq_true rfl) dX3_filter_126 ⟨Nat.zero_le _, Nat.zero_le _⟩) hS (fun H locs hP hS => ?_)
                    refine lv_if_eq (tgt := 138) hx hb dX3_filter_129 (by decide) (fun c_12 => ?_) (fun c_12 => ?_)
                    · refine lv_iinc (v := (nI (i + 1))) (lv' := [(8, .int (nI (i + 1))), (9, .int (fX3_fromCell_1 st9 x3 (st9.1 103 x3.toNatClampNeg))), (7, .ref (ad 5 x2.toNatClampNeg)), (6, .ref (ad 6 1)), (0, .ref (ad 0 0)), (1, .int 1), (2, .int x2), (3, .int x3), (4, .int x4), (5, .int x5)]) hx hb dX3_filter_138 hl (k := 1) rfl (nI_1 _) (by decide) rfl (fun ls hl => ?_)
                      refine lv_goto (tgt := 63) hx hb dX3_filter_141 (by decide) ?_
                      exact ih (i + 1)  st9 _ _ _ (ow_lt (by rw [← hB]; exact c_8) hle (by omega)) (by omega) (by subst e9; simp (disch := decide) only [kf_fr, dr_fr_1]; exact hB) (by subst e9; exact dr_rf_1.trans hR) (by subst e9; obtain ⟨m, hm, em⟩ := hM; exact ⟨m, by omega, (dr_fr_1 (by decide)).trans em⟩) (by subst e9; rw [← heq]; simp only [flX3_filter_1, if_neg c_8, if_pos c_10, if_neg c_11, if_pos c_12]) hP hS (lv_sub hl [0, 2, 3, 4, 5, 6, 7, 8, 9] rfl)
                    · refine lv_aload_n hx hb dX3_filter_132 rfl (lv_at hl 4 rfl) ?_
                      refine lv_iload hx hb dX3_filter_133 (lv_at hl 1 rfl) ?_
                      refine og_cvW (og_runV (C := RX3) (T := TX3) (N := 14) (g := 0) (i := 0) (As := [.int (nI i)]) (rest := []) ⟨hx, hb, hml, hown, hts⟩ (kX3_keepFound l D ca ad A st9 (nI i) (by have h9 : i < (st.1 4 1).toNatClampNeg := (ow_lt (by rw [← hB]; exact c_8) hle (by omega)); subst e9; obtain ⟨m, hm, em⟩ := hM; exact ⟨m, by omega, (dr_fr_1 (by decide)).trans em⟩)) (cwV 1 hts gX3_filter_X3_keepFound rfl rfl rfl (by decide +kernel) ⟨Nat.le_of_ble_eq_true rfl, Nat.le_of_ble_eq_true rfl⟩) hC hP hS (ow_q0_0) rfl rfl rfl hl.1 rfl (Nat.le_of_ble_eq_true rfl) dX3_filter_135 ⟨Nat.zero_le _, Nat.zero_le _⟩) hS (fun H locs hP hS => ?_)
                      obtain ⟨st13, e13⟩ : ∃ z, z = (fX3_keepFound st9 (nI i)) := ⟨_, rfl⟩
                      rw [← e13] at hP
                      refine lv_iinc (v := (nI (i + 1))) (lv' := [(8, .int (nI (i + 1))), (9, .int (fX3_fromCell_1 st9 x3 (st9.1 103 x3.toNatClampNeg))), (7, .ref (ad 5 x2.toNatClampNeg)), (6, .ref (ad 6 1)), (0, .ref (ad 0 0)), (1, .int 1), (2, .int x2), (3, .int x3), (4, .int x4), (5, .int x5)]) hx hb dX3_filter_138 hl (k := 1) rfl (nI_1 _) (by decide) rfl (fun ls hl => ?_)
                      refine lv_goto (tgt := 63) hx hb dX3_filter_141 (by decide) ?_
                      exact ih (i + 1)  st13 _ _ _ (ow_lt (by rw [← hB]; exact c_8) hle (by omega)) (by omega) (by subst e13; subst e9; simp (disch := decide) only [kf_fr, dr_fr_1]; exact hB) (by subst e13; subst e9; exact kf_rf.trans (dr_rf_1.trans hR)) (by have h9 : i < (st.1 4 1).toNatClampNeg := (ow_lt (by rw [← hB]; exact c_8) hle (by omega)); subst e13; subst e9; obtain ⟨m, hm, em⟩ := hM; exact ⟨m + 1, by omega, by rw [kf_eq ((dr_fr_1 (by decide)).trans em) (by omega)]; exact ow_si_e _ _ _ _⟩) (by subst e13; subst e9; rw [← heq]; simp only [flX3_filter_1, if_neg c_8, if_pos c_10, if_neg c_11, if_neg c_12]) hP hS (lv_sub hl [0, 2, 3, 4, 5, 6, 7, 8, 9] rfl)
          exact loop (((st.1 4 1).toNatClampNeg) + 1) 0  st7 _ _ _ (Nat.zero_le _) (by omega) (by subst e7; rw [ow_si_ne (by decide)]; exact (sz_nI hz1).1) (by subst e7; rfl) ⟨0, Nat.le_refl 0, by subst e7; exact ow_si_e _ _ _ _⟩ (by subst e7; simp only [fX3_filter_1, if_neg c_3, if_neg c_4, if_neg c_5, if_pos c_6]) hP hS (lv_sub hl [0, 1, 2, 3, 4, 5, 6, 7, 8] rfl)
        · refine lv_acmp_eq (rx := some (ad 1 (st.2.2 (x2.toNatClampNeg + 1)))) (ry := some (ad 1 1)) (tgt := 55) hx hb dX3_filter_49 (by decide) (fun c => absurd c (fun h => c_6 (ow_inj hC.2.1 (ow_m1 (hsk _ (setN_b c_3))) (ow_q1_1) (Option.some.inj h)).2)) (fun _ => ?_)
          refine lv_bipush (v := (-3)) hx hb dX3_filter_52 (by decide) ?_
          exact W.iret (v := (-3)) hx hb hr (fun t ht hW => ⟨⟨(-3), st, rfl, (by simp only [fX3_filter_1, if_neg c_3, if_neg c_4, if_neg c_5, if_neg c_6]), ow_Bi ht hP⟩, hS.F ht⟩) hS.2.2 dX3_filter_54
      · refine lv_iconst (v := (-1)) hx hb dX3_filter_37 (by decide) ?_
        exact W.iret (v := (-1)) hx hb hr (fun t ht hW => ⟨⟨(-1), st, rfl, (by simp only [fX3_filter_1, if_neg c_3, if_neg c_4, if_pos c_5]), ow_Bi ht hP⟩, hS.F ht⟩) hS.2.2 dX3_filter_38

theorem ln_X3_sum_1_0 : (.fieldLinkNest RX3 162 "RecordLabels$Table" "size" "I" "RecordLabels" : Cond) ∈ ow_nest := by decide +kernel
theorem li_X3_sum_1_X2 : ∀ w ∈ u_ws RX2 TX2 5, w ∈ wsX3_sum := by decide +kernel
theorem ln_X3_sum_1_2 : (.fieldLinkNest RX3 192 "RecordLabels$Table" "kind" "LRecordLabels$Kind;" "RecordLabels" : Cond) ∈ ow_nest := by decide +kernel
theorem li_X3_sum_1_X3 : ∀ w ∈ u_ws RX3 TX3 14, w ∈ wsX3_sum := by decide +kernel
theorem lk_X3_sum_1_4 : (.fieldLink RX3 63 "RecordLabels" "draft" "[I" : Cond) ∈ wsX3_sum := by decide +kernel
theorem ln_X3_sum_1_5 : (.fieldLinkNest RX3 206 "RecordLabels$Table" "measure" "I" "RecordLabels" : Cond) ∈ ow_nest := by decide +kernel
def flX3_sum_1  : Nat → Nat → Int64 → ow_St → Int64 × ow_St
  | 0, _, _, sv => (0, sv)
  | n + 1, i, w3, sv => (if (sv.1 4 1) ≤ (nI i) then (w3, sv) else (let st4 := (fX3_draftOf_1 sv (nI i)); (if (fX3_wrongItem_1 st4) = (-1) then (let st6 := (fX3_askRule_1 st4 (st4.1 103 0) ((st4.1 103 3).toInt64)).2; (if (fX3_askRule_1 st4 (st4.1 103 0) ((st4.1 103 3).toInt64)).1 = (-8) then ((((fX3_askRule_1 st4 (st4.1 103 0) ((st4.1 103 3).toInt64)).1).toInt64), st6) else (if (fX3_askRule_1 st4 (st4.1 103 0) ((st4.1 103 3).toInt64)).1 = (-9) then ((((fX3_askRule_1 st4 (st4.1 103 0) ((st4.1 103 3).toInt64)).1).toInt64), st6) else (if (fX3_askRule_1 st4 (st4.1 103 0) ((st4.1 103 3).toInt64)).1 = 1 then (flX3_sum_1  n (i + 1) (w3 + (fX3_valueOf_1 st6 (st6.1 103 0) ((st6.1 103 3).toInt64))) st6) else (flX3_sum_1  n (i + 1) w3 st6))))) else (flX3_sum_1  n (i + 1) w3 st4))))
def fX3_sum_1 (st : ow_St) : Int64 × ow_St := (flX3_sum_1  (((st.1 4 1).toNatClampNeg) + 1) 0 (0 : Int64) st)
set_option maxHeartbeats 4000000 in
set_option maxRecDepth 100000 in
theorem kX3_sum_1 (l : Launch) (D : va_G) (ca : Nat → ClassId) (ad : ow_Ad) (A : Nat → Prop) (st : ow_St)  (hz1 : iv_sz st 1) : Met l yX3_sum wsX3_sum ({ frames := 3, cells := 0, slots := 0, locals := 67 }) (va_Pc [.ref (ad 0 0), .int 1] (ow_W D ca ad A st)) (va_Ql (fun r st' => (r, st') = (fX3_sum_1 st)) (ow_B D ca ad) A) 0 0 A := by
  refine Met.ofW (cc := cX3_sum) (maxL := 7) (ret := (some .long)) (by decide) rfl ?_
  intro p e s m args below meth c s₁ B hml hv
  obtain ⟨rfl, hP, hC⟩ := hv
  have hx := B.exec
  have hb := B.bytes
  have hr := B.returns
  have hts := atoms_spec (ws := wsX3_sum) B.pre
  have hown : s.vm.findClass RX3 = some m.cls := findClass_of_methodNamed B.named
  have hlocks := B.notSynchronized
  have hS : va_S A s.heap s.heap [] := va_S.rf
  have hl := lv_entry ([.ref (ad 0 0), .int 1]) (n := 7) (Nat.le_of_ble_eq_true rfl)
  rw [lg_entry_eq]
  generalize (lg_sl ([.ref (ad 0 0), .int 1]) ++ List.replicate (7 - (lg_sl ([.ref (ad 0 0), .int 1])).length) Slot.unset).toArray = ls at hl ⊢
  have hl : lv_has ls 7 [(0, .ref (ad 0 0)), (1, .int 1)] := hl
  have hB30 : ((st.1 4 1).toNatClampNeg) ≤ 30 := (sz_nI hz1).2
  refine lv_aload_n hx hb dX3_sum_0 rfl (lv_at hl 0 rfl) ?_
  refine lv_iload_n hx hb dX3_sum_1 rfl (lv_at hl 1 rfl) ?_
  have c_1 : ¬ ((1 : Int32) = 0) := by decide
  have c_2 : ((1 : Int32) = 1) := by decide
  refine og_cqS (q := ad 6 1) (og_runV (C := RX3) (T := TX3) (N := 14) (g := 0) (i := 0) (As := [.int 1]) (rest := []) ⟨hx, hb, hml, hown, hts⟩ (kX3_tableNumbered l D ca ad A st 1) (cwV 1 hts gX3_sum_X3_tableNumbered rfl rfl rfl (by decide +kernel) ⟨Nat.le_of_ble_eq_true rfl, Nat.le_of_ble_eq_true rfl⟩) hC hP hS (ow_q0_0) rfl rfl rfl hl.1 rfl (Nat.le_of_ble_eq_true rfl) dX3_sum_2 ⟨Nat.zero_le _, Nat.zero_le _⟩) hS (by first | (simp only [fX3_tableNumbered, if_neg c_1, if_pos c_2]; done) | simp [fX3_tableNumbered]) (fun H locs hP hS => ?_)
  refine lv_astore_n (lv' := [(2, .ref (ad 6 1)), (0, .ref (ad 0 0)), (1, .int 1)]) hx hb dX3_sum_5 rfl hl (by decide) rfl (fun ls hl => ?_)
  refine lv_aload_n hx hb dX3_sum_6 rfl (lv_at hl 0 rfl) ?_
  refine lv_ifnonnull (tgt := 14) hx hb dX3_sum_7 (by decide) ?_
  refine lv_lconst (v := 0) hx hb dX3_sum_14 rfl ?_
  refine lv_lstore_n (lv' := [(3, .long 0), (2, .ref (ad 6 1)), (0, .ref (ad 0 0)), (1, .int 1)]) hx hb dX3_sum_15 rfl hl (by decide) rfl (fun ls hl => ?_)
  refine lv_iconst (v := 0) hx hb dX3_sum_16 (by decide) ?_
  refine lv_istore (lv' := [(5, .int 0), (3, .long 0), (2, .ref (ad 6 1)), (0, .ref (ad 0 0)), (1, .int 1)]) hx hb dX3_sum_17 hl (by decide) rfl (fun ls hl => ?_)
  have loop : ∀ (n i : Nat) (w3 : Int64) (sv : ow_St) (H : Heap) (locs : List Loc) (ls : Array Slot), i ≤ ((st.1 4 1).toNatClampNeg) → ((st.1 4 1).toNatClampNeg) < i + n → (sv.1 4 1 = nI ((st.1 4 1).toNatClampNeg)) → flX3_sum_1  n i w3 sv = (fX3_sum_1 st) → va_P D vwCl (ow_ws ad (ow_c ca ad sv)) H → va_S A s.heap H locs → lv_has ls 7 [(5, .int (nI i)), (3, .long w3), (2, .ref (ad 6 1)), (0, .ref (ad 0 0)), (1, .int 1)] → W p l e (headSpec wsX3_sum ({ frames := 3, cells := 0, slots := 0, locals := 67 } : Room)).room s m ([.ref (ad 0 0), .int 1] : List Value).toArray below meth c H locs 0 0 (MQ below (va_Ql (fun r st' => (r, st') = (fX3_sum_1 st)) (ow_B D ca ad) A) ([.ref (ad 0 0), .int 1] : List Value).toArray s 0 0 A) (F0 m 19 ls []) := by
    intro n
    induction n with
    | zero => intro i w3 sv H locs ls h1 h2; exact absurd h2 (by omega)
    | succ n ih =>
      intro i w3 sv H locs ls hle hlt hB heq hP hS hl
      refine lv_iload hx hb dX3_sum_19 (lv_at hl 0 rfl) ?_
      refine lv_aload_n hx hb dX3_sum_21 rfl (lv_at hl 2 rfl) ?_
      refine og_getN (C := RX2) (T := TX2) (N := 5) (g := 6) (i := 1) (v := .int (sv.1 4 1)) hx hb hts li_X3_sum_1_X2 hown hC hP (ow_q6_1) rfl rfl 4 (by decide) ln_X3_sum_1_0 rfl rfl dX3_sum_22 ?_
      refine lv_icmp_ge (tgt := 126) hx hb dX3_sum_25 (by decide) (fun c_3 => ?_) (fun c_3 => ?_)
      · refine lv_lload_n hx hb dX3_sum_126 rfl (lv_at hl 1 rfl) ?_
        exact W.lret (v := w3) hx hb hr (fun t ht hW => ⟨⟨w3, sv, rfl, (by rw [← heq]; simp only [flX3_sum_1, if_pos c_3]), ow_Bi ht hP⟩, hS.F ht⟩) hS.2.2 dX3_sum_127
      · refine lv_aload_n hx hb dX3_sum_28 rfl (lv_at hl 3 rfl) ?_
        refine lv_aload_n hx hb dX3_sum_29 rfl (lv_at hl 2 rfl) ?_
        refine lv_iload hx hb dX3_sum_30 (lv_at hl 0 rfl) ?_
        refine og_cvW (og_runV (C := RX3) (T := TX3) (N := 14) (g := 0) (i := 0) (As := [.ref (ad 6 1), .int (nI i)]) (rest := []) ⟨hx, hb, hml, hown, hts⟩ (kX3_draftOf_1 l D ca ad A sv (nI i) ⟨_, hB30, hB⟩) (cwV 2 hts gX3_sum_X3_draftOf rfl rfl rfl (by decide +kernel) ⟨Nat.le_of_ble_eq_true rfl, Nat.le_of_ble_eq_true rfl⟩) hC hP hS (ow_q0_0) rfl rfl rfl hl.1 rfl (Nat.le_of_ble_eq_true rfl) dX3_sum_32 ⟨Nat.zero_le _, Nat.zero_le _⟩) hS (fun H locs hP hS => ?_)
        obtain ⟨st4, e4⟩ : ∃ z, z = (fX3_draftOf_1 sv (nI i)) := ⟨_, rfl⟩
        rw [← e4] at hP
        refine lv_aload_n hx hb dX3_sum_35 rfl (lv_at hl 3 rfl) ?_
        refine lv_aload_n hx hb dX3_sum_36 rfl (lv_at hl 2 rfl) ?_
        refine og_ciP (og_runV (C := RX3) (T := TX3) (N := 14) (g := 0) (i := 0) (As := [.ref (ad 6 1)]) (rest := []) ⟨hx, hb, hml, hown, hts⟩ (kX3_wrongItem_1 l D ca ad A st4) (cwV 1 hts gX3_sum_X3_wrongItem rfl rfl rfl (by decide +kernel) ⟨Nat.le_of_ble_eq_true rfl, Nat.le_of_ble_eq_true rfl⟩) hC hP hS (ow_q0_0) rfl rfl rfl hl.1 rfl (Nat.le_of_ble_eq_true rfl) dX3_sum_37 ⟨Nat.zero_le _, Nat.zero_le _⟩) hS (fun H locs hP hS => ?_)
        refine lv_iconst (v := (-1)) hx hb dX3_sum_40 (by decide) ?_
        refine lv_icmp_ne (tgt := 120) hx hb dX3_sum_41 (by decide) (fun c_5 => ?_) (fun c_5 => ?_)
        · refine lv_iinc (v := (nI (i + 1))) (lv' := [(5, .int (nI (i + 1))), (3, .long w3), (2, .ref (ad 6 1)), (0, .ref (ad 0 0)), (1, .int 1)]) hx hb dX3_sum_120 hl (k := 0) rfl (nI_1 _) (by decide) rfl (fun ls hl => ?_)
          refine lv_goto (tgt := 19) hx hb dX3_sum_123 (by decide) ?_
          exact ih (i + 1) w3 st4 _ _ _ (ow_lt (by rw [← hB]; exact c_3) hle (by omega)) (by omega) (by subst e4; simp (disch := decide) only [ow_si_ne, ak_fr_1, dr_fr_1]; exact hB) (by subst e4; rw [← heq]; simp only [flX3_sum_1, if_neg c_3, if_neg c_5]) hP hS (lv_sub hl [0, 1, 2, 3, 4] rfl)
        · refine lv_aload_n hx hb dX3_sum_44 rfl (lv_at hl 3 rfl) ?_
          refine lv_aload_n hx hb dX3_sum_45 rfl (lv_at hl 2 rfl) ?_
          refine og_getN (C := RX2) (T := TX2) (N := 5) (g := 6) (i := 1) (v := .ref (ad 1 1)) hx hb hts li_X3_sum_1_X2 hown hC hP (ow_q6_1) rfl rfl 0 (by decide) ln_X3_sum_1_2 rfl rfl dX3_sum_46 ?_
          refine lv_aload_n hx hb dX3_sum_49 rfl (lv_at hl 3 rfl) ?_
          refine og_get (C := RX3) (T := TX3) (N := 14) (g := 0) (i := 0) (v := .ref (ad 9 0)) hx hb hts li_X3_sum_1_X3 hown hC hP (ow_q0_0) rfl rfl 9 (by decide) (hts _ lk_X3_sum_1_4) rfl rfl dX3_sum_50 ?_
          refine lv_iconst (v := 0) hx hb dX3_sum_53 (by decide) ?_
          refine og_iald (g := 9) (i := 0) (j := 0) (v := (st4.1 103 0)) hx hb hC hP (ow_q9_0) rfl (by unfold vp_in; decide) rfl rfl dX3_sum_54 ?_
          refine lv_aload_n hx hb dX3_sum_55 rfl (lv_at hl 3 rfl) ?_
          refine og_get (C := RX3) (T := TX3) (N := 14) (g := 0) (i := 0) (v := .ref (ad 9 0)) hx hb hts li_X3_sum_1_X3 hown hC hP (ow_q0_0) rfl rfl 9 (by decide) (hts _ lk_X3_sum_1_4) rfl rfl dX3_sum_56 ?_
          refine lv_aload_n hx hb dX3_sum_59 rfl (lv_at hl 2 rfl) ?_
          refine og_getN (C := RX2) (T := TX2) (N := 5) (g := 6) (i := 1) (v := .int 3) hx hb hts li_X3_sum_1_X2 hown hC hP (ow_q6_1) rfl rfl 2 (by decide) ln_X3_sum_1_5 rfl rfl dX3_sum_60 ?_
          refine og_iald (g := 9) (i := 0) (j := 3) (v := (st4.1 103 3)) hx hb hC hP (ow_q9_0) rfl (by unfold vp_in; decide) rfl rfl dX3_sum_63 ?_
          refine lv_i2l (v := (st4.1 103 3).toInt64) hx hb dX3_sum_64 rfl ?_
          refine og_ciW (og_runV (C := RX3) (T := TX3) (N := 14) (g := 0) (i := 0) (As := [.ref (ad 1 1), .int (st4.1 103 0), .long ((st4.1 103 3).toInt64)]) (rest := []) ⟨hx, hb, hml, hown, hts⟩ (kX3_askRule_1 l D ca ad A st4 (st4.1 103 0) ((st4.1 103 3).toInt64)) (cwV 3 hts gX3_sum_X3_askRule rfl rfl rfl (by decide +kernel) ⟨Nat.le_of_ble_eq_true rfl, Nat.le_of_ble_eq_true rfl⟩) hC hP hS (ow_q0_0) rfl rfl rfl hl.1 rfl (Nat.le_of_ble_eq_true rfl) dX3_sum_65 ⟨Nat.zero_le _, Nat.zero_le _⟩) hS (fun H locs hP hS => ?_)
          obtain ⟨st6, e6⟩ : ∃ z, z = (fX3_askRule_1 st4 (st4.1 103 0) ((st4.1 103 3).toInt64)).2 := ⟨_, rfl⟩
          rw [← e6] at hP
          refine lv_istore (lv' := [(6, .int ((fX3_askRule_1 st4 (st4.1 103 0) ((st4.1 103 3).toInt64)).1)), (5, .int (nI i)), (3, .long w3), (2, .ref (ad 6 1)), (0, .ref (ad 0 0)), (1, .int 1)]) hx hb dX3_sum_68 hl (by decide) rfl (fun ls hl => ?_)
          refine lv_iload hx hb dX3_sum_70 (lv_at hl 0 rfl) ?_
          refine lv_bipush (v := (-8)) hx hb dX3_sum_72 (by decide) ?_
          refine lv_icmp_eq (tgt := 84) hx hb dX3_sum_74 (by decide) (fun c_7 => ?_) (fun c_7 => ?_)
          · refine lv_iload hx hb dX3_sum_84 (lv_at hl 0 rfl) ?_
            refine lv_i2l (v := ((fX3_askRule_1 st4 (st4.1 103 0) ((st4.1 103 3).toInt64)).1).toInt64) hx hb dX3_sum_86 rfl ?_
            exact W.lret (v := (((fX3_askRule_1 st4 (st4.1 103 0) ((st4.1 103 3).toInt64)).1).toInt64)) hx hb hr (fun t ht hW => ⟨⟨(((fX3_askRule_1 st4 (st4.1 103 0) ((st4.1 103 3).toInt64)).1).toInt64), st6, rfl, (by subst e6; subst e4; rw [← heq]; simp only [flX3_sum_1, if_neg c_3, if_pos c_5, if_pos c_7]), ow_Bi ht hP⟩, hS.F ht⟩) hS.2.2 dX3_sum_87
          · refine lv_iload hx hb dX3_sum_77 (lv_at hl 0 rfl) ?_
            refine lv_bipush (v := (-9)) hx hb dX3_sum_79 (by decide) ?_
            refine lv_icmp_ne (tgt := 88) hx hb dX3_sum_81 (by decide) (fun c_8 => ?_) (fun c_8 => ?_)
            · refine lv_iload hx hb dX3_sum_88 (lv_at hl 0 rfl) ?_
              refine lv_iconst (v := 1) hx hb dX3_sum_90 (by decide) ?_
              refine lv_icmp_ne (tgt := 120) hx hb dX3_sum_91 (by decide) (fun c_9 => ?_) (fun c_9 => ?_)
              · refine lv_iinc (v := (nI (i + 1))) (lv' := [(5, .int (nI (i + 1))), (6, .int ((fX3_askRule_1 st4 (st4.1 103 0) ((st4.1 103 3).toInt64)).1)), (3, .long w3), (2, .ref (ad 6 1)), (0, .ref (ad 0 0)), (1, .int 1)]) hx hb dX3_sum_120 hl (k := 1) rfl (nI_1 _) (by decide) rfl (fun ls hl => ?_)
                refine lv_goto (tgt := 19) hx hb dX3_sum_123 (by decide) ?_
                exact ih (i + 1) w3 st6 _ _ _ (ow_lt (by rw [← hB]; exact c_3) hle (by omega)) (by omega) (by subst e6; subst e4; simp (disch := decide) only [ow_si_ne, ak_fr_1, dr_fr_1]; exact hB) (by subst e6; subst e4; rw [← heq]; simp only [flX3_sum_1, if_neg c_3, if_pos c_5, if_neg c_7, if_neg c_8, if_neg c_9]) hP hS (lv_sub hl [0, 2, 3, 4, 5] rfl)
              · refine lv_lload_n hx hb dX3_sum_94 rfl (lv_at hl 2 rfl) ?_
                refine lv_aload_n hx hb dX3_sum_95 rfl (lv_at hl 3 rfl) ?_
                refine og_getN (C := RX2) (T := TX2) (N := 5) (g := 6) (i := 1) (v := .ref (ad 1 1)) hx hb hts li_X3_sum_1_X2 hown hC hP (ow_q6_1) rfl rfl 0 (by decide) ln_X3_sum_1_2 rfl rfl dX3_sum_96 ?_
                refine lv_aload_n hx hb dX3_sum_99 rfl (lv_at hl 4 rfl) ?_
                refine og_get (C := RX3) (T := TX3) (N := 14) (g := 0) (i := 0) (v := .ref (ad 9 0)) hx hb hts li_X3_sum_1_X3 hown hC hP (ow_q0_0) rfl rfl 9 (by decide) (hts _ lk_X3_sum_1_4) rfl rfl dX3_sum_100 ?_
                refine lv_iconst (v := 0) hx hb dX3_sum_103 (by decide) ?_
                refine og_iald (g := 9) (i := 0) (j := 0) (v := (st6.1 103 0)) hx hb hC hP (ow_q9_0) rfl (by unfold vp_in; decide) rfl rfl dX3_sum_104 ?_
                refine lv_aload_n hx hb dX3_sum_105 rfl (lv_at hl 4 rfl) ?_
                refine og_get (C := RX3) (T := TX3) (N := 14) (g := 0) (i := 0) (v := .ref (ad 9 0)) hx hb hts li_X3_sum_1_X3 hown hC hP (ow_q0_0) rfl rfl 9 (by decide) (hts _ lk_X3_sum_1_4) rfl rfl dX3_sum_106 ?_
                refine lv_aload_n hx hb dX3_sum_109 rfl (lv_at hl 3 rfl) ?_
                refine og_getN (C := RX2) (T := TX2) (N := 5) (g := 6) (i := 1) (v := .int 3) hx hb hts li_X3_sum_1_X2 hown hC hP (ow_q6_1) rfl rfl 2 (by decide) ln_X3_sum_1_5 rfl rfl dX3_sum_110 ?_
                refine og_iald (g := 9) (i := 0) (j := 3) (v := (st6.1 103 3)) hx hb hC hP (ow_q9_0) rfl (by unfold vp_in; decide) rfl rfl dX3_sum_113 ?_
                refine lv_i2l (v := (st6.1 103 3).toInt64) hx hb dX3_sum_114 rfl ?_
                refine og_clP (og_runS (As := [.ref (ad 1 1), .int (st6.1 103 0), .long ((st6.1 103 3).toInt64)]) (rest := [.long w3]) ⟨hx, hb, hml, hown, hts⟩ (kX3_valueOf_1 l D ca ad A st6 (st6.1 103 0) ((st6.1 103 3).toInt64)) (va_cwS 3 hts gX3_sum_X3_valueOf rfl rfl rfl (by decide +kernel) ⟨Nat.le_of_ble_eq_true rfl, Nat.le_of_ble_eq_true rfl⟩) hC hP hS rfl hl.1 rfl (Nat.le_of_ble_eq_true rfl) dX3_sum_115 ⟨Nat.zero_le _, Nat.zero_le _⟩) hS (fun H locs hP hS => ?_)
                refine lv_ladd hx hb dX3_sum_118 ?_
                refine lv_lstore_n (lv' := [(3, .long (w3 + (fX3_valueOf_1 st6 (st6.1 103 0) ((st6.1 103 3).toInt64)))), (6, .int ((fX3_askRule_1 st4 (st4.1 103 0) ((st4.1 103 3).toInt64)).1)), (5, .int (nI i)), (2, .ref (ad 6 1)), (0, .ref (ad 0 0)), (1, .int 1)]) hx hb dX3_sum_119 rfl hl (by decide) rfl (fun ls hl => ?_)
                refine lv_iinc (v := (nI (i + 1))) (lv' := [(5, .int (nI (i + 1))), (3, .long (w3 + (fX3_valueOf_1 st6 (st6.1 103 0) ((st6.1 103 3).toInt64)))), (6, .int ((fX3_askRule_1 st4 (st4.1 103 0) ((st4.1 103 3).toInt64)).1)), (2, .ref (ad 6 1)), (0, .ref (ad 0 0)), (1, .int 1)]) hx hb dX3_sum_120 hl (k := 2) rfl (nI_1 _) (by decide) rfl (fun ls hl => ?_)
                refine lv_goto (tgt := 19) hx hb dX3_sum_123 (by decide) ?_
                exact ih (i + 1) (w3 + (fX3_valueOf_1 st6 (st6.1 103 0) ((st6.1 103 3).toInt64))) st6 _ _ _ (ow_lt (by rw [← hB]; exact c_3) hle (by omega)) (by omega) (by subst e6; subst e4; simp (disch := decide) only [ow_si_ne, ak_fr_1, dr_fr_1]; exact hB) (by subst e6; subst e4; rw [← heq]; simp only [flX3_sum_1, if_neg c_3, if_pos c_5, if_neg c_7, if_neg c_8, if_pos c_9]) hP hS (lv_sub hl [0, 1, 3, 4, 5] rfl)
            · refine lv_iload hx hb dX3_sum_84 (lv_at hl 0 rfl) ?_
              refine lv_i2l (v := ((fX3_askRule_1 st4 (st4.1 103 0) ((st4.1 103 3).toInt64)).1).toInt64) hx hb dX3_sum_86 rfl ?_
              exact W.lret (v := (((fX3_askRule_1 st4 (st4.1 103 0) ((st4.1 103 3).toInt64)).1).toInt64)) hx hb hr (fun t ht hW => ⟨⟨(((fX3_askRule_1 st4 (st4.1 103 0) ((st4.1 103 3).toInt64)).1).toInt64), st6, rfl, (by subst e6; subst e4; rw [← heq]; simp only [flX3_sum_1, if_neg c_3, if_pos c_5, if_neg c_7, if_pos c_8]), ow_Bi ht hP⟩, hS.F ht⟩) hS.2.2 dX3_sum_87
  exact loop (((st.1 4 1).toNatClampNeg) + 1) 0 (0 : Int64) st _ _ _ (Nat.zero_le _) (by omega) (sz_nI hz1).1 (by simp only [fX3_sum_1]) hP hS (lv_sub hl [0, 1, 2, 3, 4] rfl)

def fX3_filter_n (st : ow_St) (x1 x2 x3 x4 x5 : Int32) : Int32 × ow_St := (if x2 < 0 ∨ 10 ≤ x2 then ((-1), st) else ((-1), st))
set_option maxHeartbeats 4000000 in
set_option maxRecDepth 100000 in
theorem kX3_filter_n (l : Launch) (D : va_G) (ca : Nat → ClassId) (ad : ow_Ad) (A : Nat → Prop) (st : ow_St) (x1 : Int32) (x2 : Int32) (x3 : Int32) (x4 : Int32) (x5 : Int32) (hn0 : ¬ x1 = 0) (hn1 : ¬ x1 = 1) : Met l yX3_filter wsX3_filter ({ frames := 1, cells := 0, slots := 0, locals := 21 }) (va_Pc [.ref (ad 0 0), .int x1, .int x2, .int x3, .int x4, .int x5] (ow_W D ca ad A st)) (va_Qi (fun r st' => (r, st') = (fX3_filter_n st x1 x2 x3 x4 x5)) (ow_B D ca ad) A) 0 0 A := by
  refine Met.ofW (cc := cX3_filter) (maxL := 10) (ret := (some .int)) (by decide) rfl ?_
  intro p e s m args below meth c s₁ B hml hv
  obtain ⟨rfl, hP, hC⟩ := hv
  have hx := B.exec
  have hb := B.bytes
  have hr := B.returns
  have hts := atoms_spec (ws := wsX3_filter) B.pre
  have hown : s.vm.findClass RX3 = some m.cls := findClass_of_methodNamed B.named
  have hlocks := B.notSynchronized
  have hS : va_S A s.heap s.heap [] := va_S.rf
  have hl := lv_entry ([.ref (ad 0 0), .int x1, .int x2, .int x3, .int x4, .int x5]) (n := 10) (Nat.le_of_ble_eq_true rfl)
  rw [lg_entry_eq]
  generalize (lg_sl ([.ref (ad 0 0), .int x1, .int x2, .int x3, .int x4, .int x5]) ++ List.replicate (10 - (lg_sl ([.ref (ad 0 0), .int x1, .int x2, .int x3, .int x4, .int x5])).length) Slot.unset).toArray = ls at hl ⊢
  have hl : lv_has ls 10 [(0, .ref (ad 0 0)), (1, .int x1), (2, .int x2), (3, .int x3), (4, .int x4), (5, .int x5)] := hl
  refine lv_aload_n hx hb dX3_filter_0 rfl (lv_at hl 0 rfl) ?_
  refine lv_iload_n hx hb dX3_filter_1 rfl (lv_at hl 1 rfl) ?_
  refine og_cqN (og_runV (C := RX3) (T := TX3) (N := 14) (g := 0) (i := 0) (As := [.int x1]) (rest := []) ⟨hx, hb, hml, hown, hts⟩ (kX3_tableNumbered l D ca ad A st x1) (cwV 1 hts gX3_filter_X3_tableNumbered rfl rfl rfl (by decide +kernel) ⟨Nat.le_of_ble_eq_true rfl, Nat.le_of_ble_eq_true rfl⟩) hC hP hS (ow_q0_0) rfl rfl rfl hl.1 rfl (Nat.le_of_ble_eq_true rfl) dX3_filter_2 ⟨Nat.zero_le _, Nat.zero_le _⟩) hS (by simp only [fX3_tableNumbered, if_neg hn0, if_neg hn1]) (fun H locs hP hS => ?_)
  refine lv_astoreN (lv' := [(6, .null), (0, .ref (ad 0 0)), (1, .int x1), (2, .int x2), (3, .int x3), (4, .int x4), (5, .int x5)]) hx hb dX3_filter_5 hl (by decide) rfl (fun ls hl => ?_)
  refine lv_aload_n hx hb dX3_filter_7 rfl (lv_at hl 1 rfl) ?_
  refine lv_iload_n hx hb dX3_filter_8 rfl (lv_at hl 3 rfl) ?_
  by_cases c_1 : x2 < 0 ∨ 10 ≤ x2
  · refine og_cqN (og_runV (C := RX3) (T := TX3) (N := 14) (g := 0) (i := 0) (As := [.int x2]) (rest := []) ⟨hx, hb, hml, hown, hts⟩ (kX3_setNumbered l D ca ad A st x2) (cwV 1 hts gX3_filter_X3_setNumbered rfl rfl rfl (by decide +kernel) ⟨Nat.le_of_ble_eq_true rfl, Nat.le_of_ble_eq_true rfl⟩) hC hP hS (ow_q0_0) rfl rfl rfl hl.1 rfl (Nat.le_of_ble_eq_true rfl) dX3_filter_9 ⟨Nat.zero_le _, Nat.zero_le _⟩) hS (setN_none c_1) (fun H locs hP hS => ?_)
    refine lv_astoreN (lv' := [(7, .null), (6, .null), (0, .ref (ad 0 0)), (1, .int x1), (2, .int x2), (3, .int x3), (4, .int x4), (5, .int x5)]) hx hb dX3_filter_12 hl (by decide) rfl (fun ls hl => ?_)
    refine lv_aloadN hx hb dX3_filter_14 (lv_at hl 1 rfl) ?_
    refine lv_ifnullN (tgt := 37) hx hb dX3_filter_16 (by decide) ?_
    refine lv_iconst (v := (-1)) hx hb dX3_filter_37 (by decide) ?_
    exact W.iret (v := (-1)) hx hb hr (fun t ht hW => ⟨⟨(-1), st, rfl, (by simp only [fX3_filter_n, if_pos c_1]), ow_Bi ht hP⟩, hS.F ht⟩) hS.2.2 dX3_filter_38
  · refine og_cqS (q := ad 5 x2.toNatClampNeg) (og_runV (C := RX3) (T := TX3) (N := 14) (g := 0) (i := 0) (As := [.int x2]) (rest := []) ⟨hx, hb, hml, hown, hts⟩ (kX3_setNumbered l D ca ad A st x2) (cwV 1 hts gX3_filter_X3_setNumbered rfl rfl rfl (by decide +kernel) ⟨Nat.le_of_ble_eq_true rfl, Nat.le_of_ble_eq_true rfl⟩) hC hP hS (ow_q0_0) rfl rfl rfl hl.1 rfl (Nat.le_of_ble_eq_true rfl) dX3_filter_9 ⟨Nat.zero_le _, Nat.zero_le _⟩) hS (setN_some c_1) (fun H locs hP hS => ?_)
    refine lv_astore (lv' := [(7, .ref (ad 5 x2.toNatClampNeg)), (6, .null), (0, .ref (ad 0 0)), (1, .int x1), (2, .int x2), (3, .int x3), (4, .int x4), (5, .int x5)]) hx hb dX3_filter_12 hl (by decide) rfl (fun ls hl => ?_)
    refine lv_aloadN hx hb dX3_filter_14 (lv_at hl 1 rfl) ?_
    refine lv_ifnullN (tgt := 37) hx hb dX3_filter_16 (by decide) ?_
    refine lv_iconst (v := (-1)) hx hb dX3_filter_37 (by decide) ?_
    exact W.iret (v := (-1)) hx hb hr (fun t ht hW => ⟨⟨(-1), st, rfl, (by simp only [fX3_filter_n, if_neg c_1]), ow_Bi ht hP⟩, hS.F ht⟩) hS.2.2 dX3_filter_38

theorem lk_X3_sum_n_0 : (.constantLong RX3 204 (-1) : Cond) ∈ wsX3_sum := by decide +kernel
def fX3_sum_n (st : ow_St) (x1 : Int32) : Int64 × ow_St := ((-1), st)
set_option maxHeartbeats 4000000 in
set_option maxRecDepth 100000 in
theorem kX3_sum_n (l : Launch) (D : va_G) (ca : Nat → ClassId) (ad : ow_Ad) (A : Nat → Prop) (st : ow_St) (x1 : Int32) (hn0 : ¬ x1 = 0) (hn1 : ¬ x1 = 1) : Met l yX3_sum wsX3_sum ({ frames := 1, cells := 0, slots := 0, locals := 21 }) (va_Pc [.ref (ad 0 0), .int x1] (ow_W D ca ad A st)) (va_Ql (fun r st' => (r, st') = (fX3_sum_n st x1)) (ow_B D ca ad) A) 0 0 A := by
  refine Met.ofW (cc := cX3_sum) (maxL := 7) (ret := (some .long)) (by decide) rfl ?_
  intro p e s m args below meth c s₁ B hml hv
  obtain ⟨rfl, hP, hC⟩ := hv
  have hx := B.exec
  have hb := B.bytes
  have hr := B.returns
  have hts := atoms_spec (ws := wsX3_sum) B.pre
  have hown : s.vm.findClass RX3 = some m.cls := findClass_of_methodNamed B.named
  have hlocks := B.notSynchronized
  have hS : va_S A s.heap s.heap [] := va_S.rf
  have hl := lv_entry ([.ref (ad 0 0), .int x1]) (n := 7) (Nat.le_of_ble_eq_true rfl)
  rw [lg_entry_eq]
  generalize (lg_sl ([.ref (ad 0 0), .int x1]) ++ List.replicate (7 - (lg_sl ([.ref (ad 0 0), .int x1])).length) Slot.unset).toArray = ls at hl ⊢
  have hl : lv_has ls 7 [(0, .ref (ad 0 0)), (1, .int x1)] := hl
  refine lv_aload_n hx hb dX3_sum_0 rfl (lv_at hl 0 rfl) ?_
  refine lv_iload_n hx hb dX3_sum_1 rfl (lv_at hl 1 rfl) ?_
  refine og_cqN (og_runV (C := RX3) (T := TX3) (N := 14) (g := 0) (i := 0) (As := [.int x1]) (rest := []) ⟨hx, hb, hml, hown, hts⟩ (kX3_tableNumbered l D ca ad A st x1) (cwV 1 hts gX3_sum_X3_tableNumbered rfl rfl rfl (by decide +kernel) ⟨Nat.le_of_ble_eq_true rfl, Nat.le_of_ble_eq_true rfl⟩) hC hP hS (ow_q0_0) rfl rfl rfl hl.1 rfl (Nat.le_of_ble_eq_true rfl) dX3_sum_2 ⟨Nat.zero_le _, Nat.zero_le _⟩) hS (by simp only [fX3_tableNumbered, if_neg hn0, if_neg hn1]) (fun H locs hP hS => ?_)
  refine lv_astore_nN (lv' := [(2, .null), (0, .ref (ad 0 0)), (1, .int x1)]) hx hb dX3_sum_5 rfl hl (by decide) rfl (fun ls hl => ?_)
  refine lv_aload_nN hx hb dX3_sum_6 rfl (lv_at hl 0 rfl) ?_
  refine lv_ifnonnullN hx hb dX3_sum_7 ?_
  refine lv_ldc2 (v := (-1)) hx hb hown (hts _ lk_X3_sum_n_0) dX3_sum_10 ?_
  exact W.lret (v := (-1)) hx hb hr (fun t ht hW => ⟨⟨(-1), st, rfl, (by simp only [fX3_sum_n]), ow_Bi ht hP⟩, hS.F ht⟩) hS.2.2 dX3_sum_13
