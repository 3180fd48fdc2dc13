def iv_con (st : ow_St) : Prop := ∀ k, k < 3 → ∀ j, j < mn k → vp_in (st.1 (100 + 4 * k) j) (mn k)
def iv_sk (st : ow_St) : Prop := ∀ j, j < 10 → st.2.2 (j + 1) < 3
def iv_sz (st : ow_St) (t : Nat) : Prop := ∃ n, n ≤ 30 ∧ st.1 4 t = nI n
def iv_fs (st : ow_St) : Prop := ∃ n, n ≤ 30 ∧ st.1 0 2 = nI n
theorem in_le {x : Int32} {n N : Nat} (h1 : ¬ x < 0) (h2 : ¬ nI n ≤ x) (hn : n ≤ N) (hN : N < 2 ^ 31) : vp_in x N := by
  obtain ⟨j, hj, rfl⟩ := nI_of h1
  exact vp_in_nI (by
    rcases Nat.lt_or_ge j n with h | h
    · omega
    · exact absurd (nI_le h hj) h2) hN
theorem rec_in_0 {st : ow_St} {x : Int32} (hz : iv_sz st 0) (h : ¬ fX2_hasRecord_0 st x = 0) : vp_in x 30 := by
  obtain ⟨n, hn, e⟩ := hz
  unfold fX2_hasRecord_0 at h
  rw [e] at h
  by_cases c1 : x < 0
  · rw [if_pos c1] at h
    exact absurd rfl h
  · rw [if_neg c1] at h
    by_cases c2 : nI n ≤ x
    · rw [if_pos c2] at h
      exact absurd rfl h
    · exact in_le c1 c2 hn (by decide)
theorem rec_in_1 {st : ow_St} {x : Int32} (hz : iv_sz st 1) (h : ¬ fX2_hasRecord_1 st x = 0) : vp_in x 30 := by
  obtain ⟨n, hn, e⟩ := hz
  unfold fX2_hasRecord_1 at h
  rw [e] at h
  by_cases c1 : x < 0
  · rw [if_pos c1] at h
    exact absurd rfl h
  · rw [if_neg c1] at h
    by_cases c2 : nI n ≤ x
    · rw [if_pos c2] at h
      exact absurd rfl h
    · exact in_le c1 c2 hn (by decide)
theorem itm_in_0 {st : ow_St} {x : Int32} (h : ¬ fX2_hasItem_0 st x = 0) : vp_in x 4 := by
  unfold fX2_hasItem_0 at h
  by_cases c1 : x < 0
  · rw [if_pos c1] at h
    exact absurd rfl h
  · rw [if_neg c1] at h
    by_cases c2 : 3 ≤ x
    · rw [if_pos c2] at h
      exact absurd rfl h
    · exact in_le (n := 3) c1 c2 (by decide) (by decide)
theorem itm_in_1 {st : ow_St} {x : Int32} (h : ¬ fX2_hasItem_1 st x = 0) : vp_in x 4 := by
  unfold fX2_hasItem_1 at h
  by_cases c1 : x < 0
  · rw [if_pos c1] at h
    exact absurd rfl h
  · rw [if_neg c1] at h
    by_cases c2 : 4 ≤ x
    · rw [if_pos c2] at h
      exact absurd rfl h
    · exact in_le (n := 4) c1 c2 (by decide) (by decide)
theorem itm_b8_0 {st : ow_St} {x : Int32} (h : ¬ fX2_hasItem_0 st x = 0) : 4 * 0 + x.toNatClampNeg < 8 := by
  have := vp_lt (itm_in_0 h)
  omega
theorem itm_b8_1 {st : ow_St} {x : Int32} (h : ¬ fX2_hasItem_1 st x = 0) : 4 * 1 + x.toNatClampNeg < 8 := by
  have := vp_lt (itm_in_1 h)
  omega
theorem sz_at {st st' : ow_St} {t : Nat} (h : iv_sz st t) (e : st'.1 4 t = st.1 4 t) : iv_sz st' t := by
  obtain ⟨n, hn, e1⟩ := h
  exact ⟨n, hn, e.trans e1⟩
theorem sz_in {st : ow_St} {t : Nat} (h : iv_sz st t) (h2 : st.1 4 t < 30) : vp_in (st.1 4 t) 30 := by
  obtain ⟨n, hn, e1⟩ := h
  rw [e1] at h2 ⊢
  exact vp_in_nI ((nI_ltI (by omega) (by decide)).mp (show nI n < nI 30 from h2)) (by decide)
theorem fs_in {st : ow_St} {x : Int32} (h : iv_fs st) (c1 : ¬ x < 0) (c2 : ¬ st.1 0 2 ≤ x) : vp_in x 30 := by
  obtain ⟨n, hn, e⟩ := h
  rw [e] at c2
  exact in_le c1 c2 hn (by decide)
theorem fs_at {st : ow_St} {i : Nat} (h : ∃ m, m ≤ i ∧ st.1 0 2 = nI m) (hi : i < 30) : vp_in (st.1 0 2) 30 := by
  obtain ⟨n, hn, e⟩ := h
  rw [e]
  exact vp_in_nI (by omega) (by decide)

theorem ln_X3_draftOf_0_0 : (.methodLinkNest RX3 178 yX2_hasRecord "RecordLabels" : Cond) ∈ ow_nest := by decide +kernel
theorem lk_X3_draftOf_0_1 : (.initialized RX2 : Cond) ∈ wsX3_draftOf := by decide +kernel
theorem lk_X3_draftOf_0_2 : (.instanceMethod yX2_hasRecord : Cond) ∈ wsX3_draftOf := by decide +kernel
theorem lk_X3_draftOf_0_3 : (.selects RX2 yX2_hasRecord yX2_hasRecord : Cond) ∈ wsX3_draftOf := by decide +kernel
theorem ln_X3_draftOf_0_4 : (.fieldLinkNest RX3 171 "RecordLabels$Table" "items" "I" "RecordLabels" : Cond) ∈ ow_nest := by decide +kernel
theorem li_X3_draftOf_0_X2 : ∀ w ∈ u_ws RX2 TX2 5, w ∈ wsX3_draftOf := by decide +kernel
theorem li_X3_draftOf_0_X3 : ∀ w ∈ u_ws RX3 TX3 14, w ∈ wsX3_draftOf := by decide +kernel
theorem lk_X3_draftOf_0_7 : (.fieldLink RX3 63 "RecordLabels" "draft" "[I" : Cond) ∈ wsX3_draftOf := by decide +kernel
theorem ln_X3_draftOf_0_8 : (.fieldLinkNest RX3 174 "RecordLabels$Table" "columns" "[[I" "RecordLabels" : Cond) ∈ ow_nest := by decide +kernel
def fX3_draftOf_0 (st : ow_St) (x2 : Int32) : ow_St := (if (fX2_hasRecord_0 st x2) = 0 then st else (let st2 := (ow_si st 103 0 (st.1 102 x2.toNatClampNeg)); (let st3 := (ow_si st2 103 1 (st2.1 106 x2.toNatClampNeg)); (let st4 := (ow_si st3 103 2 (st3.1 110 x2.toNatClampNeg)); st4))))
set_option maxHeartbeats 4000000 in
set_option maxRecDepth 100000 in
theorem kX3_draftOf_0 (l : Launch) (D : va_G) (ca : Nat → ClassId) (ad : ow_Ad) (A : Nat → Prop) (st : ow_St) (x2 : Int32) (hz0 : iv_sz st 0) : Met l yX3_draftOf wsX3_draftOf ({ frames := 1, cells := 0, slots := 0, locals := 21 }) (va_Pc [.ref (ad 0 0), .ref (ad 6 0), .int x2] (ow_W D ca ad A st)) (va_Qv (fun st' => st' = (fX3_draftOf_0 st x2)) (ow_B D ca ad) A) 0 0 A := by
  refine Met.ofW (cc := cX3_draftOf) (maxL := 4) (ret := none) (by decide) rfl ?_
  intro p e s m args below meth c s₁ B hml hv
  obtain ⟨rfl, hP, hC⟩ := hv
  have hx := B.exec
  have hb := B.bytes
  have hr := B.returns
  have hts := atoms_spec (ws := wsX3_draftOf) B.pre
  have hown : s.vm.findClass RX3 = some m.cls := findClass_of_methodNamed B.named
  have hlocks := B.notSynchronized
  have hS : va_S A s.heap s.heap [] := va_S.rf
  have hl := lv_entry ([.ref (ad 0 0), .ref (ad 6 0), .int x2]) (n := 4) (Nat.le_of_ble_eq_true rfl)
  rw [lg_entry_eq]
  generalize (lg_sl ([.ref (ad 0 0), .ref (ad 6 0), .int x2]) ++ List.replicate (4 - (lg_sl ([.ref (ad 0 0), .ref (ad 6 0), .int x2])).length) Slot.unset).toArray = ls at hl ⊢
  have hl : lv_has ls 4 [(0, .ref (ad 0 0)), (1, .ref (ad 6 0)), (2, .int x2)] := hl
  refine lv_aload_n hx hb dX3_draftOf_0 rfl (lv_at hl 1 rfl) ?_
  refine lv_iload_n hx hb dX3_draftOf_1 rfl (lv_at hl 2 rfl) ?_
  refine og_ciP (og_runVN (C := RX2) (T := TX2) (N := 5) (g := 6) (i := 0) (As := [.int x2]) (rest := []) ⟨hx, hb, hml, hown, hts⟩ (kX2_hasRecord_0 l D ca ad A st x2) ⟨va_cnB 1 hts gX3_draftOf_X2_hasRecord_n178 rfl rfl rfl (hC.2.2.1 _ ln_X3_draftOf_0_0) (hts _ lk_X3_draftOf_0_1) (by decide +kernel) ⟨Nat.le_of_ble_eq_true rfl, Nat.le_of_ble_eq_true rfl⟩, (hts _ lk_X3_draftOf_0_2), (hts _ lk_X3_draftOf_0_3)⟩ hC hP hS (ow_q6_0) rfl rfl rfl hl.1 rfl (Nat.le_of_ble_eq_true rfl) dX3_draftOf_2 ⟨Nat.zero_le _, Nat.zero_le _⟩) hS (fun H locs hP hS => ?_)
  refine lv_if_ne (tgt := 9) hx hb dX3_draftOf_5 (by decide) (fun c_1 => ?_) (fun c_1 => ?_)
  · refine lv_iconst (v := 0) hx hb dX3_draftOf_9 (by decide) ?_
    refine lv_istore_n (lv' := [(3, .int 0), (0, .ref (ad 0 0)), (1, .ref (ad 6 0)), (2, .int x2)]) hx hb dX3_draftOf_10 rfl hl (by decide) rfl (fun ls hl => ?_)
    refine lv_iload_n hx hb dX3_draftOf_11 rfl (lv_at hl 0 rfl) ?_
    refine lv_aload_n hx hb dX3_draftOf_12 rfl (lv_at hl 2 rfl) ?_
    refine og_getN (C := RX2) (T := TX2) (N := 5) (g := 6) (i := 0) (v := .int 3) hx hb hts li_X3_draftOf_0_X2 hown hC hP (ow_q6_0) rfl rfl 1 (by decide) ln_X3_draftOf_0_4 rfl rfl dX3_draftOf_13 ?_
    refine lv_icmp_ge (tgt := 39) hx hb dX3_draftOf_16 (by decide) (fun c => absurd c (by decide)) (fun _ => ?_)
    refine lv_aload_n hx hb dX3_draftOf_19 rfl (lv_at hl 1 rfl) ?_
    refine og_get (C := RX3) (T := TX3) (N := 14) (g := 0) (i := 0) (v := .ref (ad 9 0)) hx hb hts li_X3_draftOf_0_X3 hown hC hP (ow_q0_0) rfl rfl 9 (by decide) (hts _ lk_X3_draftOf_0_7) rfl rfl dX3_draftOf_20 ?_
    refine lv_iload_n hx hb dX3_draftOf_23 rfl (lv_at hl 0 rfl) ?_
    refine lv_aload_n hx hb dX3_draftOf_24 rfl (lv_at hl 2 rfl) ?_
    refine og_getN (C := RX2) (T := TX2) (N := 5) (g := 6) (i := 0) (v := .ref (ad 7 0)) hx hb hts li_X3_draftOf_0_X2 hown hC hP (ow_q6_0) rfl rfl 3 (by decide) ln_X3_draftOf_0_8 rfl rfl dX3_draftOf_25 ?_
    refine lv_iload_n hx hb dX3_draftOf_28 rfl (lv_at hl 0 rfl) ?_
    refine og_aaldI (g := 7) (i := 0) (v := ad 8 0) hx hb hC hP ow_q7_0 rfl (by unfold vp_in; decide) rfl dX3_draftOf_29 ?_
    refine lv_iload_n hx hb dX3_draftOf_30 rfl (lv_at hl 3 rfl) ?_
    refine og_iald (g := 8) (i := 0) (j := x2.toNatClampNeg) (v := (st.1 102 x2.toNatClampNeg)) hx hb hC hP (ow_q8_0) rfl (rec_in_0 hz0 c_1) rfl rfl dX3_draftOf_31 ?_
    refine og_iast (g := 9) (i := 0) (j := 0) (v := (st.1 102 x2.toNatClampNeg)) hx hb hC hP hS (ow_q9_0) rfl (by unfold vp_in; decide) rfl (we_9_0 st 0 (st.1 102 x2.toNatClampNeg)) dX3_draftOf_32 (fun H locs hP hS => ?_)
    obtain ⟨st2, e2⟩ : ∃ z, z = (ow_si st 103 0 (st.1 102 x2.toNatClampNeg)) := ⟨_, rfl⟩
    rw [← e2] at hP
    refine lv_iinc (v := 1) (lv' := [(3, .int 1), (0, .ref (ad 0 0)), (1, .ref (ad 6 0)), (2, .int x2)]) hx hb dX3_draftOf_33 hl (k := 0) rfl (by decide) (by decide) rfl (fun ls hl => ?_)
    refine lv_goto (tgt := 11) hx hb dX3_draftOf_36 (by decide) ?_
    refine lv_iload_n hx hb dX3_draftOf_11 rfl (lv_at hl 0 rfl) ?_
    refine lv_aload_n hx hb dX3_draftOf_12 rfl (lv_at hl 2 rfl) ?_
    refine og_getN (C := RX2) (T := TX2) (N := 5) (g := 6) (i := 0) (v := .int 3) hx hb hts li_X3_draftOf_0_X2 hown hC hP (ow_q6_0) rfl rfl 1 (by decide) ln_X3_draftOf_0_4 rfl rfl dX3_draftOf_13 ?_
    refine lv_icmp_ge (tgt := 39) hx hb dX3_draftOf_16 (by decide) (fun c => absurd c (by decide)) (fun _ => ?_)
    refine lv_aload_n hx hb dX3_draftOf_19 rfl (lv_at hl 1 rfl) ?_
    refine og_get (C := RX3) (T := TX3) (N := 14) (g := 0) (i := 0) (v := .ref (ad 9 0)) hx hb hts li_X3_draftOf_0_X3 hown hC hP (ow_q0_0) rfl rfl 9 (by decide) (hts _ lk_X3_draftOf_0_7) rfl rfl dX3_draftOf_20 ?_
    refine lv_iload_n hx hb dX3_draftOf_23 rfl (lv_at hl 0 rfl) ?_
    refine lv_aload_n hx hb dX3_draftOf_24 rfl (lv_at hl 2 rfl) ?_
    refine og_getN (C := RX2) (T := TX2) (N := 5) (g := 6) (i := 0) (v := .ref (ad 7 0)) hx hb hts li_X3_draftOf_0_X2 hown hC hP (ow_q6_0) rfl rfl 3 (by decide) ln_X3_draftOf_0_8 rfl rfl dX3_draftOf_25 ?_
    refine lv_iload_n hx hb dX3_draftOf_28 rfl (lv_at hl 0 rfl) ?_
    refine og_aaldI (g := 7) (i := 0) (v := ad 8 1) hx hb hC hP ow_q7_0 rfl (by unfold vp_in; decide) rfl dX3_draftOf_29 ?_
    refine lv_iload_n hx hb dX3_draftOf_30 rfl (lv_at hl 3 rfl) ?_
    refine og_iald (g := 8) (i := 1) (j := x2.toNatClampNeg) (v := (st2.1 106 x2.toNatClampNeg)) hx hb hC hP (ow_q8_1) rfl (rec_in_0 hz0 c_1) rfl rfl dX3_draftOf_31 ?_
    refine og_iast (g := 9) (i := 0) (j := 1) (v := (st2.1 106 x2.toNatClampNeg)) hx hb hC hP hS (ow_q9_0) rfl (by unfold vp_in; decide) rfl (we_9_0 st2 1 (st2.1 106 x2.toNatClampNeg)) dX3_draftOf_32 (fun H locs hP hS => ?_)
    obtain ⟨st3, e3⟩ : ∃ z, z = (ow_si st2 103 1 (st2.1 106 x2.toNatClampNeg)) := ⟨_, rfl⟩
    rw [← e3] at hP
    refine lv_iinc (v := 2) (lv' := [(3, .int 2), (0, .ref (ad 0 0)), (1, .ref (ad 6 0)), (2, .int x2)]) hx hb dX3_draftOf_33 hl (k := 0) rfl (by decide) (by decide) rfl (fun ls hl => ?_)
    refine lv_goto (tgt := 11) hx hb dX3_draftOf_36 (by decide) ?_
    refine lv_iload_n hx hb dX3_draftOf_11 rfl (lv_at hl 0 rfl) ?_
    refine lv_aload_n hx hb dX3_draftOf_12 rfl (lv_at hl 2 rfl) ?_
    refine og_getN (C := RX2) (T := TX2) (N := 5) (g := 6) (i := 0) (v := .int 3) hx hb hts li_X3_draftOf_0_X2 hown hC hP (ow_q6_0) rfl rfl 1 (by decide) ln_X3_draftOf_0_4 rfl rfl dX3_draftOf_13 ?_
    refine lv_icmp_ge (tgt := 39) hx hb dX3_draftOf_16 (by decide) (fun c => absurd c (by decide)) (fun _ => ?_)
    refine lv_aload_n hx hb dX3_draftOf_19 rfl (lv_at hl 1 rfl) ?_
    refine og_get (C := RX3) (T := TX3) (N := 14) (g := 0) (i := 0) (v := .ref (ad 9 0)) hx hb hts li_X3_draftOf_0_X3 hown hC hP (ow_q0_0) rfl rfl 9 (by decide) (hts _ lk_X3_draftOf_0_7) rfl rfl dX3_draftOf_20 ?_
    refine lv_iload_n hx hb dX3_draftOf_23 rfl (lv_at hl 0 rfl) ?_
    refine lv_aload_n hx hb dX3_draftOf_24 rfl (lv_at hl 2 rfl) ?_
    refine og_getN (C := RX2) (T := TX2) (N := 5) (g := 6) (i := 0) (v := .ref (ad 7 0)) hx hb hts li_X3_draftOf_0_X2 hown hC hP (ow_q6_0) rfl rfl 3 (by decide) ln_X3_draftOf_0_8 rfl rfl dX3_draftOf_25 ?_
    refine lv_iload_n hx hb dX3_draftOf_28 rfl (lv_at hl 0 rfl) ?_
    refine og_aaldI (g := 7) (i := 0) (v := ad 8 2) hx hb hC hP ow_q7_0 rfl (by unfold vp_in; decide) rfl dX3_draftOf_29 ?_
    refine lv_iload_n hx hb dX3_draftOf_30 rfl (lv_at hl 3 rfl) ?_
    refine og_iald (g := 8) (i := 2) (j := x2.toNatClampNeg) (v := (st3.1 110 x2.toNatClampNeg)) hx hb hC hP (ow_q8_2) rfl (rec_in_0 hz0 c_1) rfl rfl dX3_draftOf_31 ?_
    refine og_iast (g := 9) (i := 0) (j := 2) (v := (st3.1 110 x2.toNatClampNeg)) hx hb hC hP hS (ow_q9_0) rfl (by unfold vp_in; decide) rfl (we_9_0 st3 2 (st3.1 110 x2.toNatClampNeg)) dX3_draftOf_32 (fun H locs hP hS => ?_)
    obtain ⟨st4, e4⟩ : ∃ z, z = (ow_si st3 103 2 (st3.1 110 x2.toNatClampNeg)) := ⟨_, rfl⟩
    rw [← e4] at hP
    refine lv_iinc (v := 3) (lv' := [(3, .int 3), (0, .ref (ad 0 0)), (1, .ref (ad 6 0)), (2, .int x2)]) hx hb dX3_draftOf_33 hl (k := 0) rfl (by decide) (by decide) rfl (fun ls hl => ?_)
    refine lv_goto (tgt := 11) hx hb dX3_draftOf_36 (by decide) ?_
    refine lv_iload_n hx hb dX3_draftOf_11 rfl (lv_at hl 0 rfl) ?_
    refine lv_aload_n hx hb dX3_draftOf_12 rfl (lv_at hl 2 rfl) ?_
    refine og_getN (C := RX2) (T := TX2) (N := 5) (g := 6) (i := 0) (v := .int 3) hx hb hts li_X3_draftOf_0_X2 hown hC hP (ow_q6_0) rfl rfl 1 (by decide) ln_X3_draftOf_0_4 rfl rfl dX3_draftOf_13 ?_
    refine lv_icmp_ge (tgt := 39) hx hb dX3_draftOf_16 (by decide) (fun _ => ?_) (fun c => absurd (by decide) c)
    exact W.vret hx hb hr (fun t ht hW => ⟨⟨st4, rfl, (by subst e4; subst e3; subst e2; simp only [fX3_draftOf_0, if_neg c_1]), ow_Bi ht hP⟩, hS.F ht⟩) hS.2.2 dX3_draftOf_39
  · exact W.vret hx hb hr (fun t ht hW => ⟨⟨st, rfl, (by simp only [fX3_draftOf_0, if_pos c_1]), ow_Bi ht hP⟩, hS.F ht⟩) hS.2.2 dX3_draftOf_8

theorem ln_X3_putTogether_0_0 : (.fieldLinkNest RX3 171 "RecordLabels$Table" "items" "I" "RecordLabels" : Cond) ∈ ow_nest := by decide +kernel
theorem li_X3_putTogether_0_X2 : ∀ w ∈ u_ws RX2 TX2 5, w ∈ wsX3_putTogether := by decide +kernel
theorem li_X3_putTogether_0_X3 : ∀ w ∈ u_ws RX3 TX3 14, w ∈ wsX3_putTogether := by decide +kernel
theorem lk_X3_putTogether_0_3 : (.fieldLink RX3 67 "RecordLabels" "parts" "[I" : Cond) ∈ wsX3_putTogether := by decide +kernel
theorem lk_X3_putTogether_0_4 : (.fieldLink RX3 63 "RecordLabels" "draft" "[I" : Cond) ∈ wsX3_putTogether := by decide +kernel
theorem lk_X3_putTogether_0_5 : (.fieldLink RX3 70 "RecordLabels" "partsTable" "LRecordLabels$Table;" : Cond) ∈ wsX3_putTogether := by decide +kernel
theorem lk_X3_putTogether_0_6 : (.fieldLink RX3 60 "RecordLabels" "wrongRecords" "I" : Cond) ∈ wsX3_putTogether := by decide +kernel
def fX3_putTogether_0 (st : ow_St) : Int32 × ow_St := (if (fX3_wrongItem_0 st) = (-1) then (let st2 := (ow_si st 107 0 (st.1 103 0)); (let st3 := (ow_si st2 107 1 (st2.1 103 1)); (let st4 := (ow_si st3 107 2 (st3.1 103 2)); (let st5 := (ow_sr st4 0 1); (1, st5))))) else (let st6 := (ow_si st 0 1 ((st.1 0 1) + 1)); (((-10) - (fX3_wrongItem_0 st)), st6)))
set_option maxHeartbeats 4000000 in
set_option maxRecDepth 100000 in
theorem kX3_putTogether_0 (l : Launch) (D : va_G) (ca : Nat → ClassId) (ad : ow_Ad) (A : Nat → Prop) (st : ow_St)  : Met l yX3_putTogether wsX3_putTogether ({ frames := 3, cells := 0, slots := 0, locals := 67 }) (va_Pc [.ref (ad 0 0), .ref (ad 6 0)] (ow_W D ca ad A st)) (va_Qi (fun r st' => (r, st') = (fX3_putTogether_0 st)) (ow_B D ca ad) A) 0 0 A := by
  refine Met.ofW (cc := cX3_putTogether) (maxL := 4) (ret := (some .int)) (by decide) rfl ?_
  intro p e s m args below meth c s₁ B hml hv
  obtain ⟨rfl, hP, hC⟩ := hv
  have hx := B.exec
  have hb := B.bytes
  have hr := B.returns
  have hts := atoms_spec (ws := wsX3_putTogether) B.pre
  have hown : s.vm.findClass RX3 = some m.cls := findClass_of_methodNamed B.named
  have hlocks := B.notSynchronized
  have hS : va_S A s.heap s.heap [] := va_S.rf
  have hl := lv_entry ([.ref (ad 0 0), .ref (ad 6 0)]) (n := 4) (Nat.le_of_ble_eq_true rfl)
  rw [lg_entry_eq]
  generalize (lg_sl ([.ref (ad 0 0), .ref (ad 6 0)]) ++ List.replicate (4 - (lg_sl ([.ref (ad 0 0), .ref (ad 6 0)])).length) Slot.unset).toArray = ls at hl ⊢
  have hl : lv_has ls 4 [(0, .ref (ad 0 0)), (1, .ref (ad 6 0))] := hl
  refine lv_aload_n hx hb dX3_putTogether_0 rfl (lv_at hl 0 rfl) ?_
  refine lv_aload_n hx hb dX3_putTogether_1 rfl (lv_at hl 1 rfl) ?_
  refine og_ciP (og_runV (C := RX3) (T := TX3) (N := 14) (g := 0) (i := 0) (As := [.ref (ad 6 0)]) (rest := []) ⟨hx, hb, hml, hown, hts⟩ (kX3_wrongItem_0 l D ca ad A st) (cwV 1 hts gX3_putTogether_X3_wrongItem rfl rfl rfl (by decide +kernel) ⟨Nat.le_of_ble_eq_true rfl, Nat.le_of_ble_eq_true rfl⟩) hC hP hS (ow_q0_0) rfl rfl rfl hl.1 rfl (Nat.le_of_ble_eq_true rfl) dX3_putTogether_2 ⟨Nat.zero_le _, Nat.zero_le _⟩) hS (fun H locs hP hS => ?_)
  refine lv_istore_n (lv' := [(2, .int (fX3_wrongItem_0 st)), (0, .ref (ad 0 0)), (1, .ref (ad 6 0))]) hx hb dX3_putTogether_5 rfl hl (by decide) rfl (fun ls hl => ?_)
  refine lv_iload_n hx hb dX3_putTogether_6 rfl (lv_at hl 0 rfl) ?_
  refine lv_iconst (v := (-1)) hx hb dX3_putTogether_7 (by decide) ?_
  refine lv_icmp_eq (tgt := 26) hx hb dX3_putTogether_8 (by decide) (fun c_1 => ?_) (fun c_1 => ?_)
  · refine lv_iconst (v := 0) hx hb dX3_putTogether_26 (by decide) ?_
    refine lv_istore_n (lv' := [(3, .int 0), (2, .int (fX3_wrongItem_0 st)), (0, .ref (ad 0 0)), (1, .ref (ad 6 0))]) hx hb dX3_putTogether_27 rfl hl (by decide) rfl (fun ls hl => ?_)
    refine lv_iload_n hx hb dX3_putTogether_28 rfl (lv_at hl 0 rfl) ?_
    refine lv_aload_n hx hb dX3_putTogether_29 rfl (lv_at hl 3 rfl) ?_
    refine og_getN (C := RX2) (T := TX2) (N := 5) (g := 6) (i := 0) (v := .int 3) hx hb hts li_X3_putTogether_0_X2 hown hC hP (ow_q6_0) rfl rfl 1 (by decide) ln_X3_putTogether_0_0 rfl rfl dX3_putTogether_30 ?_
    refine lv_icmp_ge (tgt := 54) hx hb dX3_putTogether_33 (by decide) (fun c => absurd c (by decide)) (fun _ => ?_)
    refine lv_aload_n hx hb dX3_putTogether_36 rfl (lv_at hl 2 rfl) ?_
    refine og_get (C := RX3) (T := TX3) (N := 14) (g := 0) (i := 0) (v := .ref (ad 9 1)) hx hb hts li_X3_putTogether_0_X3 hown hC hP (ow_q0_0) rfl rfl 10 (by decide) (hts _ lk_X3_putTogether_0_3) rfl rfl dX3_putTogether_37 ?_
    refine lv_iload_n hx hb dX3_putTogether_40 rfl (lv_at hl 0 rfl) ?_
    refine lv_aload_n hx hb dX3_putTogether_41 rfl (lv_at hl 2 rfl) ?_
    refine og_get (C := RX3) (T := TX3) (N := 14) (g := 0) (i := 0) (v := .ref (ad 9 0)) hx hb hts li_X3_putTogether_0_X3 hown hC hP (ow_q0_0) rfl rfl 9 (by decide) (hts _ lk_X3_putTogether_0_4) rfl rfl dX3_putTogether_42 ?_
    refine lv_iload_n hx hb dX3_putTogether_45 rfl (lv_at hl 0 rfl) ?_
    refine og_iald (g := 9) (i := 0) (j := 0) (v := (st.1 103 0)) hx hb hC hP (ow_q9_0) rfl (by unfold vp_in; decide) rfl rfl dX3_putTogether_46 ?_
    refine og_iast (g := 9) (i := 1) (j := 0) (v := (st.1 103 0)) hx hb hC hP hS (ow_q9_1) rfl (by unfold vp_in; decide) rfl (we_9_1 st 0 (st.1 103 0)) dX3_putTogether_47 (fun H locs hP hS => ?_)
    obtain ⟨st2, e2⟩ : ∃ z, z = (ow_si st 107 0 (st.1 103 0)) := ⟨_, rfl⟩
    rw [← e2] at hP
    refine lv_iinc (v := 1) (lv' := [(3, .int 1), (2, .int (fX3_wrongItem_0 st)), (0, .ref (ad 0 0)), (1, .ref (ad 6 0))]) hx hb dX3_putTogether_48 hl (k := 0) rfl (by decide) (by decide) rfl (fun ls hl => ?_)
    refine lv_goto (tgt := 28) hx hb dX3_putTogether_51 (by decide) ?_
    refine lv_iload_n hx hb dX3_putTogether_28 rfl (lv_at hl 0 rfl) ?_
    refine lv_aload_n hx hb dX3_putTogether_29 rfl (lv_at hl 3 rfl) ?_
    refine og_getN (C := RX2) (T := TX2) (N := 5) (g := 6) (i := 0) (v := .int 3) hx hb hts li_X3_putTogether_0_X2 hown hC hP (ow_q6_0) rfl rfl 1 (by decide) ln_X3_putTogether_0_0 rfl rfl dX3_putTogether_30 ?_
    refine lv_icmp_ge (tgt := 54) hx hb dX3_putTogether_33 (by decide) (fun c => absurd c (by decide)) (fun _ => ?_)
    refine lv_aload_n hx hb dX3_putTogether_36 rfl (lv_at hl 2 rfl) ?_
    refine og_get (C := RX3) (T := TX3) (N := 14) (g := 0) (i := 0) (v := .ref (ad 9 1)) hx hb hts li_X3_putTogether_0_X3 hown hC hP (ow_q0_0) rfl rfl 10 (by decide) (hts _ lk_X3_putTogether_0_3) rfl rfl dX3_putTogether_37 ?_
    refine lv_iload_n hx hb dX3_putTogether_40 rfl (lv_at hl 0 rfl) ?_
    refine lv_aload_n hx hb dX3_putTogether_41 rfl (lv_at hl 2 rfl) ?_
    refine og_get (C := RX3) (T := TX3) (N := 14) (g := 0) (i := 0) (v := .ref (ad 9 0)) hx hb hts li_X3_putTogether_0_X3 hown hC hP (ow_q0_0) rfl rfl 9 (by decide) (hts _ lk_X3_putTogether_0_4) rfl rfl dX3_putTogether_42 ?_
    refine lv_iload_n hx hb dX3_putTogether_45 rfl (lv_at hl 0 rfl) ?_
    refine og_iald (g := 9) (i := 0) (j := 1) (v := (st2.1 103 1)) hx hb hC hP (ow_q9_0) rfl (by unfold vp_in; decide) rfl rfl dX3_putTogether_46 ?_
    refine og_iast (g := 9) (i := 1) (j := 1) (v := (st2.1 103 1)) hx hb hC hP hS (ow_q9_1) rfl (by unfold vp_in; decide) rfl (we_9_1 st2 1 (st2.1 103 1)) dX3_putTogether_47 (fun H locs hP hS => ?_)
    obtain ⟨st3, e3⟩ : ∃ z, z = (ow_si st2 107 1 (st2.1 103 1)) := ⟨_, rfl⟩
    rw [← e3] at hP
    refine lv_iinc (v := 2) (lv' := [(3, .int 2), (2, .int (fX3_wrongItem_0 st)), (0, .ref (ad 0 0)), (1, .ref (ad 6 0))]) hx hb dX3_putTogether_48 hl (k := 0) rfl (by decide) (by decide) rfl (fun ls hl => ?_)
    refine lv_goto (tgt := 28) hx hb dX3_putTogether_51 (by decide) ?_
    refine lv_iload_n hx hb dX3_putTogether_28 rfl (lv_at hl 0 rfl) ?_
    refine lv_aload_n hx hb dX3_putTogether_29 rfl (lv_at hl 3 rfl) ?_
    refine og_getN (C := RX2) (T := TX2) (N := 5) (g := 6) (i := 0) (v := .int 3) hx hb hts li_X3_putTogether_0_X2 hown hC hP (ow_q6_0) rfl rfl 1 (by decide) ln_X3_putTogether_0_0 rfl rfl dX3_putTogether_30 ?_
    refine lv_icmp_ge (tgt := 54) hx hb dX3_putTogether_33 (by decide) (fun c => absurd c (by decide)) (fun _ => ?_)
    refine lv_aload_n hx hb dX3_putTogether_36 rfl (lv_at hl 2 rfl) ?_
    refine og_get (C := RX3) (T := TX3) (N := 14) (g := 0) (i := 0) (v := .ref (ad 9 1)) hx hb hts li_X3_putTogether_0_X3 hown hC hP (ow_q0_0) rfl rfl 10 (by decide) (hts _ lk_X3_putTogether_0_3) rfl rfl dX3_putTogether_37 ?_
    refine lv_iload_n hx hb dX3_putTogether_40 rfl (lv_at hl 0 rfl) ?_
    refine lv_aload_n hx hb dX3_putTogether_41 rfl (lv_at hl 2 rfl) ?_
    refine og_get (C := RX3) (T := TX3) (N := 14) (g := 0) (i := 0) (v := .ref (ad 9 0)) hx hb hts li_X3_putTogether_0_X3 hown hC hP (ow_q0_0) rfl rfl 9 (by decide) (hts _ lk_X3_putTogether_0_4) rfl rfl dX3_putTogether_42 ?_
    refine lv_iload_n hx hb dX3_putTogether_45 rfl (lv_at hl 0 rfl) ?_
    refine og_iald (g := 9) (i := 0) (j := 2) (v := (st3.1 103 2)) hx hb hC hP (ow_q9_0) rfl (by unfold vp_in; decide) rfl rfl dX3_putTogether_46 ?_
    refine og_iast (g := 9) (i := 1) (j := 2) (v := (st3.1 103 2)) hx hb hC hP hS (ow_q9_1) rfl (by unfold vp_in; decide) rfl (we_9_1 st3 2 (st3.1 103 2)) dX3_putTogether_47 (fun H locs hP hS => ?_)
    obtain ⟨st4, e4⟩ : ∃ z, z = (ow_si st3 107 2 (st3.1 103 2)) := ⟨_, rfl⟩
    rw [← e4] at hP
    refine lv_iinc (v := 3) (lv' := [(3, .int 3), (2, .int (fX3_wrongItem_0 st)), (0, .ref (ad 0 0)), (1, .ref (ad 6 0))]) hx hb dX3_putTogether_48 hl (k := 0) rfl (by decide) (by decide) rfl (fun ls hl => ?_)
    refine lv_goto (tgt := 28) hx hb dX3_putTogether_51 (by decide) ?_
    refine lv_iload_n hx hb dX3_putTogether_28 rfl (lv_at hl 0 rfl) ?_
    refine lv_aload_n hx hb dX3_putTogether_29 rfl (lv_at hl 3 rfl) ?_
    refine og_getN (C := RX2) (T := TX2) (N := 5) (g := 6) (i := 0) (v := .int 3) hx hb hts li_X3_putTogether_0_X2 hown hC hP (ow_q6_0) rfl rfl 1 (by decide) ln_X3_putTogether_0_0 rfl rfl dX3_putTogether_30 ?_
    refine lv_icmp_ge (tgt := 54) hx hb dX3_putTogether_33 (by decide) (fun _ => ?_) (fun c => absurd (by decide) c)
    refine lv_aload_n hx hb dX3_putTogether_54 rfl (lv_at hl 2 rfl) ?_
    refine lv_aload_n hx hb dX3_putTogether_55 rfl (lv_at hl 3 rfl) ?_
    refine og_put (C := RX3) (T := TX3) (N := 14) (g := 0) (i := 0) (v := .ref (ad 6 0)) (ty := .object "RecordLabels$Table") hx hb hts li_X3_putTogether_0_X3 tyX3 tyX3_ok nmX3 hown hC hP hS (ow_q0_0) rfl rfl 11 (by decide) (hts _ lk_X3_putTogether_0_5) rfl rfl (by decide +kernel) rfl rfl (Nat.le_of_ble_eq_true rfl) (we_0_p st4 0) dX3_putTogether_56 (fun H locs hP hS => ?_)
    obtain ⟨st5, e5⟩ : ∃ z, z = (ow_sr st4 0 1) := ⟨_, rfl⟩
    rw [← e5] at hP
    refine lv_iconst (v := 1) hx hb dX3_putTogether_59 (by decide) ?_
    exact W.iret (v := 1) hx hb hr (fun t ht hW => ⟨⟨1, st5, rfl, (by subst e5; subst e4; subst e3; subst e2; simp only [fX3_putTogether_0, if_pos c_1]), ow_Bi ht hP⟩, hS.F ht⟩) hS.2.2 dX3_putTogether_60
  · refine lv_aload_n hx hb dX3_putTogether_11 rfl (lv_at hl 1 rfl) ?_
    refine lv_dup hx hb dX3_putTogether_12 rfl ?_
    refine og_get (C := RX3) (T := TX3) (N := 14) (g := 0) (i := 0) (v := .int (st.1 0 1)) hx hb hts li_X3_putTogether_0_X3 hown hC hP (ow_q0_0) rfl rfl 8 (by decide) (hts _ lk_X3_putTogether_0_6) rfl rfl dX3_putTogether_13 ?_
    refine lv_iconst (v := 1) hx hb dX3_putTogether_16 (by decide) ?_
    refine lv_iadd hx hb dX3_putTogether_17 ?_
    refine og_put (C := RX3) (T := TX3) (N := 14) (g := 0) (i := 0) (v := .int ((st.1 0 1) + 1)) (ty := .int) hx hb hts li_X3_putTogether_0_X3 tyX3 tyX3_ok nmX3 hown hC hP hS (ow_q0_0) rfl rfl 8 (by decide) (hts _ lk_X3_putTogether_0_6) rfl rfl (by decide +kernel) rfl rfl (Nat.le_of_ble_eq_true rfl) (we_0_1 st ((st.1 0 1) + 1)) dX3_putTogether_18 (fun H locs hP hS => ?_)
    obtain ⟨st6, e6⟩ : ∃ z, z = (ow_si st 0 1 ((st.1 0 1) + 1)) := ⟨_, rfl⟩
    rw [← e6] at hP
    refine lv_bipush (v := (-10)) hx hb dX3_putTogether_21 (by decide) ?_
    refine lv_iload_n hx hb dX3_putTogether_23 rfl (lv_at hl 0 rfl) ?_
    refine lv_isub hx hb dX3_putTogether_24 ?_
    exact W.iret (v := ((-10) - (fX3_wrongItem_0 st))) hx hb hr (fun t ht hW => ⟨⟨((-10) - (fX3_wrongItem_0 st)), st6, rfl, (by subst e6; simp only [fX3_putTogether_0, if_neg c_1]), ow_Bi ht hP⟩, hS.F ht⟩) hS.2.2 dX3_putTogether_25

theorem ln_X3_draftOf_1_0 : (.methodLinkNest RX3 178 yX2_hasRecord "RecordLabels" : Cond) ∈ ow_nest := by decide +kernel
theorem lk_X3_draftOf_1_1 : (.initialized RX2 : Cond) ∈ wsX3_draftOf := by decide +kernel
theorem lk_X3_draftOf_1_2 : (.instanceMethod yX2_hasRecord : Cond) ∈ wsX3_draftOf := by decide +kernel
theorem lk_X3_draftOf_1_3 : (.selects RX2 yX2_hasRecord yX2_hasRecord : Cond) ∈ wsX3_draftOf := by decide +kernel
theorem ln_X3_draftOf_1_4 : (.fieldLinkNest RX3 171 "RecordLabels$Table" "items" "I" "RecordLabels" : Cond) ∈ ow_nest := by decide +kernel
theorem li_X3_draftOf_1_X2 : ∀ w ∈ u_ws RX2 TX2 5, w ∈ wsX3_draftOf := by decide +kernel
theorem li_X3_draftOf_1_X3 : ∀ w ∈ u_ws RX3 TX3 14, w ∈ wsX3_draftOf := by decide +kernel
theorem lk_X3_draftOf_1_7 : (.fieldLink RX3 63 "RecordLabels" "draft" "[I" : Cond) ∈ wsX3_draftOf := by decide +kernel
theorem ln_X3_draftOf_1_8 : (.fieldLinkNest RX3 174 "RecordLabels$Table" "columns" "[[I" "RecordLabels" : Cond) ∈ ow_nest := by decide +kernel
def fX3_draftOf_1 (st : ow_St) (x2 : Int32) : ow_St := (if (fX2_hasRecord_1 st x2) = 0 then st else (let st2 := (ow_si st 103 0 (st.1 118 x2.toNatClampNeg)); (let st3 := (ow_si st2 103 1 (st2.1 122 x2.toNatClampNeg)); (let st4 := (ow_si st3 103 2 (st3.1 126 x2.toNatClampNeg)); (let st5 := (ow_si st4 103 3 (st4.1 130 x2.toNatClampNeg)); st5)))))
set_option maxHeartbeats 4000000 in
set_option maxRecDepth 100000 in
theorem kX3_draftOf_1 (l : Launch) (D : va_G) (ca : Nat → ClassId) (ad : ow_Ad) (A : Nat → Prop) (st : ow_St) (x2 : Int32) (hz1 : iv_sz st 1) : Met l yX3_draftOf wsX3_draftOf ({ frames := 1, cells := 0, slots := 0, locals := 21 }) (va_Pc [.ref (ad 0 0), .ref (ad 6 1), .int x2] (ow_W D ca ad A st)) (va_Qv (fun st' => st' = (fX3_draftOf_1 st x2)) (ow_B D ca ad) A) 0 0 A := by
  refine Met.ofW (cc := cX3_draftOf) (maxL := 4) (ret := none) (by decide) rfl ?_
  intro p e s m args below meth c s₁ B hml hv
  obtain ⟨rfl, hP, hC⟩ := hv
  have hx := B.exec
  have hb := B.bytes
  have hr := B.returns
  have hts := atoms_spec (ws := wsX3_draftOf) B.pre
  have hown : s.vm.findClass RX3 = some m.cls := findClass_of_methodNamed B.named
  have hlocks := B.notSynchronized
  have hS : va_S A s.heap s.heap [] := va_S.rf
  have hl := lv_entry ([.ref (ad 0 0), .ref (ad 6 1), .int x2]) (n := 4) (Nat.le_of_ble_eq_true rfl)
  rw [lg_entry_eq]
  generalize (lg_sl ([.ref (ad 0 0), .ref (ad 6 1), .int x2]) ++ List.replicate (4 - (lg_sl ([.ref (ad 0 0), .ref (ad 6 1), .int x2])).length) Slot.unset).toArray = ls at hl ⊢
  have hl : lv_has ls 4 [(0, .ref (ad 0 0)), (1, .ref (ad 6 1)), (2, .int x2)] := hl
  refine lv_aload_n hx hb dX3_draftOf_0 rfl (lv_at hl 1 rfl) ?_
  refine lv_iload_n hx hb dX3_draftOf_1 rfl (lv_at hl 2 rfl) ?_
  refine og_ciP (og_runVN (C := RX2) (T := TX2) (N := 5) (g := 6) (i := 1) (As := [.int x2]) (rest := []) ⟨hx, hb, hml, hown, hts⟩ (kX2_hasRecord_1 l D ca ad A st x2) ⟨va_cnB 1 hts gX3_draftOf_X2_hasRecord_n178 rfl rfl rfl (hC.2.2.1 _ ln_X3_draftOf_1_0) (hts _ lk_X3_draftOf_1_1) (by decide +kernel) ⟨Nat.le_of_ble_eq_true rfl, Nat.le_of_ble_eq_true rfl⟩, (hts _ lk_X3_draftOf_1_2), (hts _ lk_X3_draftOf_1_3)⟩ hC hP hS (ow_q6_1) rfl rfl rfl hl.1 rfl (Nat.le_of_ble_eq_true rfl) dX3_draftOf_2 ⟨Nat.zero_le _, Nat.zero_le _⟩) hS (fun H locs hP hS => ?_)
  refine lv_if_ne (tgt := 9) hx hb dX3_draftOf_5 (by decide) (fun c_1 => ?_) (fun c_1 => ?_)
  · refine lv_iconst (v := 0) hx hb dX3_draftOf_9 (by decide) ?_
    refine lv_istore_n (lv' := [(3, .int 0), (0, .ref (ad 0 0)), (1, .ref (ad 6 1)), (2, .int x2)]) hx hb dX3_draftOf_10 rfl hl (by decide) rfl (fun ls hl => ?_)
    refine lv_iload_n hx hb dX3_draftOf_11 rfl (lv_at hl 0 rfl) ?_
    refine lv_aload_n hx hb dX3_draftOf_12 rfl (lv_at hl 2 rfl) ?_
    refine og_getN (C := RX2) (T := TX2) (N := 5) (g := 6) (i := 1) (v := .int 4) hx hb hts li_X3_draftOf_1_X2 hown hC hP (ow_q6_1) rfl rfl 1 (by decide) ln_X3_draftOf_1_4 rfl rfl dX3_draftOf_13 ?_
    refine lv_icmp_ge (tgt := 39) hx hb dX3_draftOf_16 (by decide) (fun c => absurd c (by decide)) (fun _ => ?_)
    refine lv_aload_n hx hb dX3_draftOf_19 rfl (lv_at hl 1 rfl) ?_
    refine og_get (C := RX3) (T := TX3) (N := 14) (g := 0) (i := 0) (v := .ref (ad 9 0)) hx hb hts li_X3_draftOf_1_X3 hown hC hP (ow_q0_0) rfl rfl 9 (by decide) (hts _ lk_X3_draftOf_1_7) rfl rfl dX3_draftOf_20 ?_
    refine lv_iload_n hx hb dX3_draftOf_23 rfl (lv_at hl 0 rfl) ?_
    refine lv_aload_n hx hb dX3_draftOf_24 rfl (lv_at hl 2 rfl) ?_
    refine og_getN (C := RX2) (T := TX2) (N := 5) (g := 6) (i := 1) (v := .ref (ad 7 1)) hx hb hts li_X3_draftOf_1_X2 hown hC hP (ow_q6_1) rfl rfl 3 (by decide) ln_X3_draftOf_1_8 rfl rfl dX3_draftOf_25 ?_
    refine lv_iload_n hx hb dX3_draftOf_28 rfl (lv_at hl 0 rfl) ?_
    refine og_aaldI (g := 7) (i := 1) (v := ad 8 4) hx hb hC hP ow_q7_1 rfl (by unfold vp_in; decide) rfl dX3_draftOf_29 ?_
    refine lv_iload_n hx hb dX3_draftOf_30 rfl (lv_at hl 3 rfl) ?_
    refine og_iald (g := 8) (i := 4) (j := x2.toNatClampNeg) (v := (st.1 118 x2.toNatClampNeg)) hx hb hC hP (ow_q8_4) rfl (rec_in_1 hz1 c_1) rfl rfl dX3_draftOf_31 ?_
    refine og_iast (g := 9) (i := 0) (j := 0) (v := (st.1 118 x2.toNatClampNeg)) hx hb hC hP hS (ow_q9_0) rfl (by unfold vp_in; decide) rfl (we_9_0 st 0 (st.1 118 x2.toNatClampNeg)) dX3_draftOf_32 (fun H locs hP hS => ?_)
    obtain ⟨st2, e2⟩ : ∃ z, z = (ow_si st 103 0 (st.1 118 x2.toNatClampNeg)) := ⟨_, rfl⟩
    rw [← e2] at hP
    refine lv_iinc (v := 1) (lv' := [(3, .int 1), (0, .ref (ad 0 0)), (1, .ref (ad 6 1)), (2, .int x2)]) hx hb dX3_draftOf_33 hl (k := 0) rfl (by decide) (by decide) rfl (fun ls hl => ?_)
    refine lv_goto (tgt := 11) hx hb dX3_draftOf_36 (by decide) ?_
    refine lv_iload_n hx hb dX3_draftOf_11 rfl (lv_at hl 0 rfl) ?_
    refine lv_aload_n hx hb dX3_draftOf_12 rfl (lv_at hl 2 rfl) ?_
    refine og_getN (C := RX2) (T := TX2) (N := 5) (g := 6) (i := 1) (v := .int 4) hx hb hts li_X3_draftOf_1_X2 hown hC hP (ow_q6_1) rfl rfl 1 (by decide) ln_X3_draftOf_1_4 rfl rfl dX3_draftOf_13 ?_
    refine lv_icmp_ge (tgt := 39) hx hb dX3_draftOf_16 (by decide) (fun c => absurd c (by decide)) (fun _ => ?_)
    refine lv_aload_n hx hb dX3_draftOf_19 rfl (lv_at hl 1 rfl) ?_
    refine og_get (C := RX3) (T := TX3) (N := 14) (g := 0) (i := 0) (v := .ref (ad 9 0)) hx hb hts li_X3_draftOf_1_X3 hown hC hP (ow_q0_0) rfl rfl 9 (by decide) (hts _ lk_X3_draftOf_1_7) rfl rfl dX3_draftOf_20 ?_
    refine lv_iload_n hx hb dX3_draftOf_23 rfl (lv_at hl 0 rfl) ?_
    refine lv_aload_n hx hb dX3_draftOf_24 rfl (lv_at hl 2 rfl) ?_
    refine og_getN (C := RX2) (T := TX2) (N := 5) (g := 6) (i := 1) (v := .ref (ad 7 1)) hx hb hts li_X3_draftOf_1_X2 hown hC hP (ow_q6_1) rfl rfl 3 (by decide) ln_X3_draftOf_1_8 rfl rfl dX3_draftOf_25 ?_
    refine lv_iload_n hx hb dX3_draftOf_28 rfl (lv_at hl 0 rfl) ?_
    refine og_aaldI (g := 7) (i := 1) (v := ad 8 5) hx hb hC hP ow_q7_1 rfl (by unfold vp_in; decide) rfl dX3_draftOf_29 ?_
    refine lv_iload_n hx hb dX3_draftOf_30 rfl (lv_at hl 3 rfl) ?_
    refine og_iald (g := 8) (i := 5) (j := x2.toNatClampNeg) (v := (st2.1 122 x2.toNatClampNeg)) hx hb hC hP (ow_q8_5) rfl (rec_in_1 hz1 c_1) rfl rfl dX3_draftOf_31 ?_
    refine og_iast (g := 9) (i := 0) (j := 1) (v := (st2.1 122 x2.toNatClampNeg)) hx hb hC hP hS (ow_q9_0) rfl (by unfold vp_in; decide) rfl (we_9_0 st2 1 (st2.1 122 x2.toNatClampNeg)) dX3_draftOf_32 (fun H locs hP hS => ?_)
    obtain ⟨st3, e3⟩ : ∃ z, z = (ow_si st2 103 1 (st2.1 122 x2.toNatClampNeg)) := ⟨_, rfl⟩
    rw [← e3] at hP
    refine lv_iinc (v := 2) (lv' := [(3, .int 2), (0, .ref (ad 0 0)), (1, .ref (ad 6 1)), (2, .int x2)]) hx hb dX3_draftOf_33 hl (k := 0) rfl (by decide) (by decide) rfl (fun ls hl => ?_)
    refine lv_goto (tgt := 11) hx hb dX3_draftOf_36 (by decide) ?_
    refine lv_iload_n hx hb dX3_draftOf_11 rfl (lv_at hl 0 rfl) ?_
    refine lv_aload_n hx hb dX3_draftOf_12 rfl (lv_at hl 2 rfl) ?_
    refine og_getN (C := RX2) (T := TX2) (N := 5) (g := 6) (i := 1) (v := .int 4) hx hb hts li_X3_draftOf_1_X2 hown hC hP (ow_q6_1) rfl rfl 1 (by decide) ln_X3_draftOf_1_4 rfl rfl dX3_draftOf_13 ?_
    refine lv_icmp_ge (tgt := 39) hx hb dX3_draftOf_16 (by decide) (fun c => absurd c (by decide)) (fun _ => ?_)
    refine lv_aload_n hx hb dX3_draftOf_19 rfl (lv_at hl 1 rfl) ?_
    refine og_get (C := RX3) (T := TX3) (N := 14) (g := 0) (i := 0) (v := .ref (ad 9 0)) hx hb hts li_X3_draftOf_1_X3 hown hC hP (ow_q0_0) rfl rfl 9 (by decide) (hts _ lk_X3_draftOf_1_7) rfl rfl dX3_draftOf_20 ?_
    refine lv_iload_n hx hb dX3_draftOf_23 rfl (lv_at hl 0 rfl) ?_
    refine lv_aload_n hx hb dX3_draftOf_24 rfl (lv_at hl 2 rfl) ?_
    refine og_getN (C := RX2) (T := TX2) (N := 5) (g := 6) (i := 1) (v := .ref (ad 7 1)) hx hb hts li_X3_draftOf_1_X2 hown hC hP (ow_q6_1) rfl rfl 3 (by decide) ln_X3_draftOf_1_8 rfl rfl dX3_draftOf_25 ?_
    refine lv_iload_n hx hb dX3_draftOf_28 rfl (lv_at hl 0 rfl) ?_
    refine og_aaldI (g := 7) (i := 1) (v := ad 8 6) hx hb hC hP ow_q7_1 rfl (by unfold vp_in; decide) rfl dX3_draftOf_29 ?_
    refine lv_iload_n hx hb dX3_draftOf_30 rfl (lv_at hl 3 rfl) ?_
    refine og_iald (g := 8) (i := 6) (j := x2.toNatClampNeg) (v := (st3.1 126 x2.toNatClampNeg)) hx hb hC hP (ow_q8_6) rfl (rec_in_1 hz1 c_1) rfl rfl dX3_draftOf_31 ?_
    refine og_iast (g := 9) (i := 0) (j := 2) (v := (st3.1 126 x2.toNatClampNeg)) hx hb hC hP hS (ow_q9_0) rfl (by unfold vp_in; decide) rfl (we_9_0 st3 2 (st3.1 126 x2.toNatClampNeg)) dX3_draftOf_32 (fun H locs hP hS => ?_)
    obtain ⟨st4, e4⟩ : ∃ z, z = (ow_si st3 103 2 (st3.1 126 x2.toNatClampNeg)) := ⟨_, rfl⟩
    rw [← e4] at hP
    refine lv_iinc (v := 3) (lv' := [(3, .int 3), (0, .ref (ad 0 0)), (1, .ref (ad 6 1)), (2, .int x2)]) hx hb dX3_draftOf_33 hl (k := 0) rfl (by decide) (by decide) rfl (fun ls hl => ?_)
    refine lv_goto (tgt := 11) hx hb dX3_draftOf_36 (by decide) ?_
    refine lv_iload_n hx hb dX3_draftOf_11 rfl (lv_at hl 0 rfl) ?_
    refine lv_aload_n hx hb dX3_draftOf_12 rfl (lv_at hl 2 rfl) ?_
    refine og_getN (C := RX2) (T := TX2) (N := 5) (g := 6) (i := 1) (v := .int 4) hx hb hts li_X3_draftOf_1_X2 hown hC hP (ow_q6_1) rfl rfl 1 (by decide) ln_X3_draftOf_1_4 rfl rfl dX3_draftOf_13 ?_
    refine lv_icmp_ge (tgt := 39) hx hb dX3_draftOf_16 (by decide) (fun c => absurd c (by decide)) (fun _ => ?_)
    refine lv_aload_n hx hb dX3_draftOf_19 rfl (lv_at hl 1 rfl) ?_
    refine og_get (C := RX3) (T := TX3) (N := 14) (g := 0) (i := 0) (v := .ref (ad 9 0)) hx hb hts li_X3_draftOf_1_X3 hown hC hP (ow_q0_0) rfl rfl 9 (by decide) (hts _ lk_X3_draftOf_1_7) rfl rfl dX3_draftOf_20 ?_
    refine lv_iload_n hx hb dX3_draftOf_23 rfl (lv_at hl 0 rfl) ?_
    refine lv_aload_n hx hb dX3_draftOf_24 rfl (lv_at hl 2 rfl) ?_
    refine og_getN (C := RX2) (T := TX2) (N := 5) (g := 6) (i := 1) (v := .ref (ad 7 1)) hx hb hts li_X3_draftOf_1_X2 hown hC hP (ow_q6_1) rfl rfl 3 (by decide) ln_X3_draftOf_1_8 rfl rfl dX3_draftOf_25 ?_
    refine lv_iload_n hx hb dX3_draftOf_28 rfl (lv_at hl 0 rfl) ?_
    refine og_aaldI (g := 7) (i := 1) (v := ad 8 7) hx hb hC hP ow_q7_1 rfl (by unfold vp_in; decide) rfl dX3_draftOf_29 ?_
    refine lv_iload_n hx hb dX3_draftOf_30 rfl (lv_at hl 3 rfl) ?_
    refine og_iald (g := 8) (i := 7) (j := x2.toNatClampNeg) (v := (st4.1 130 x2.toNatClampNeg)) hx hb hC hP (ow_q8_7) rfl (rec_in_1 hz1 c_1) rfl rfl dX3_draftOf_31 ?_
    refine og_iast (g := 9) (i := 0) (j := 3) (v := (st4.1 130 x2.toNatClampNeg)) hx hb hC hP hS (ow_q9_0) rfl (by unfold vp_in; decide) rfl (we_9_0 st4 3 (st4.1 130 x2.toNatClampNeg)) dX3_draftOf_32 (fun H locs hP hS => ?_)
    obtain ⟨st5, e5⟩ : ∃ z, z = (ow_si st4 103 3 (st4.1 130 x2.toNatClampNeg)) := ⟨_, rfl⟩
    rw [← e5] at hP
    refine lv_iinc (v := 4) (lv' := [(3, .int 4), (0, .ref (ad 0 0)), (1, .ref (ad 6 1)), (2, .int x2)]) hx hb dX3_draftOf_33 hl (k := 0) rfl (by decide) (by decide) rfl (fun ls hl => ?_)
    refine lv_goto (tgt := 11) hx hb dX3_draftOf_36 (by decide) ?_
    refine lv_iload_n hx hb dX3_draftOf_11 rfl (lv_at hl 0 rfl) ?_
    refine lv_aload_n hx hb dX3_draftOf_12 rfl (lv_at hl 2 rfl) ?_
    refine og_getN (C := RX2) (T := TX2) (N := 5) (g := 6) (i := 1) (v := .int 4) hx hb hts li_X3_draftOf_1_X2 hown hC hP (ow_q6_1) rfl rfl 1 (by decide) ln_X3_draftOf_1_4 rfl rfl dX3_draftOf_13 ?_
    refine lv_icmp_ge (tgt := 39) hx hb dX3_draftOf_16 (by decide) (fun _ => ?_) (fun c => absurd (by decide) c)
    exact W.vret hx hb hr (fun t ht hW => ⟨⟨st5, rfl, (by subst e5; subst e4; subst e3; subst e2; simp only [fX3_draftOf_1, if_neg c_1]), ow_Bi ht hP⟩, hS.F ht⟩) hS.2.2 dX3_draftOf_39
  · exact W.vret hx hb hr (fun t ht hW => ⟨⟨st, rfl, (by simp only [fX3_draftOf_1, if_pos c_1]), ow_Bi ht hP⟩, hS.F ht⟩) hS.2.2 dX3_draftOf_8

theorem ln_X3_putTogether_1_0 : (.fieldLinkNest RX3 171 "RecordLabels$Table" "items" "I" "RecordLabels" : Cond) ∈ ow_nest := by decide +kernel
theorem li_X3_putTogether_1_X2 : ∀ w ∈ u_ws RX2 TX2 5, w ∈ wsX3_putTogether := by decide +kernel
theorem li_X3_putTogether_1_X3 : ∀ w ∈ u_ws RX3 TX3 14, w ∈ wsX3_putTogether := by decide +kernel
theorem lk_X3_putTogether_1_3 : (.fieldLink RX3 67 "RecordLabels" "parts" "[I" : Cond) ∈ wsX3_putTogether := by decide +kernel
theorem lk_X3_putTogether_1_4 : (.fieldLink RX3 63 "RecordLabels" "draft" "[I" : Cond) ∈ wsX3_putTogether := by decide +kernel
theorem lk_X3_putTogether_1_5 : (.fieldLink RX3 70 "RecordLabels" "partsTable" "LRecordLabels$Table;" : Cond) ∈ wsX3_putTogether := by decide +kernel
theorem lk_X3_putTogether_1_6 : (.fieldLink RX3 60 "RecordLabels" "wrongRecords" "I" : Cond) ∈ wsX3_putTogether := by decide +kernel
def fX3_putTogether_1 (st : ow_St) : Int32 × ow_St := (if (fX3_wrongItem_1 st) = (-1) then (let st2 := (ow_si st 107 0 (st.1 103 0)); (let st3 := (ow_si st2 107 1 (st2.1 103 1)); (let st4 := (ow_si st3 107 2 (st3.1 103 2)); (let st5 := (ow_si st4 107 3 (st4.1 103 3)); (let st6 := (ow_sr st5 0 2); (1, st6)))))) else (let st7 := (ow_si st 0 1 ((st.1 0 1) + 1)); (((-10) - (fX3_wrongItem_1 st)), st7)))
set_option maxHeartbeats 4000000 in
set_option maxRecDepth 100000 in
theorem kX3_putTogether_1 (l : Launch) (D : va_G) (ca : Nat → ClassId) (ad : ow_Ad) (A : Nat → Prop) (st : ow_St)  : Met l yX3_putTogether wsX3_putTogether ({ frames := 3, cells := 0, slots := 0, locals := 67 }) (va_Pc [.ref (ad 0 0), .ref (ad 6 1)] (ow_W D ca ad A st)) (va_Qi (fun r st' => (r, st') = (fX3_putTogether_1 st)) (ow_B D ca ad) A) 0 0 A := by
  refine Met.ofW (cc := cX3_putTogether) (maxL := 4) (ret := (some .int)) (by decide) rfl ?_
  intro p e s m args below meth c s₁ B hml hv
  obtain ⟨rfl, hP, hC⟩ := hv
  have hx := B.exec
  have hb := B.bytes
  have hr := B.returns
  have hts := atoms_spec (ws := wsX3_putTogether) B.pre
  have hown : s.vm.findClass RX3 = some m.cls := findClass_of_methodNamed B.named
  have hlocks := B.notSynchronized
  have hS : va_S A s.heap s.heap [] := va_S.rf
  have hl := lv_entry ([.ref (ad 0 0), .ref (ad 6 1)]) (n := 4) (Nat.le_of_ble_eq_true rfl)
  rw [lg_entry_eq]
  generalize (lg_sl ([.ref (ad 0 0), .ref (ad 6 1)]) ++ List.replicate (4 - (lg_sl ([.ref (ad 0 0), .ref (ad 6 1)])).length) Slot.unset).toArray = ls at hl ⊢
  have hl : lv_has ls 4 [(0, .ref (ad 0 0)), (1, .ref (ad 6 1))] := hl
  refine lv_aload_n hx hb dX3_putTogether_0 rfl (lv_at hl 0 rfl) ?_
  refine lv_aload_n hx hb dX3_putTogether_1 rfl (lv_at hl 1 rfl) ?_
  refine og_ciP (og_runV (C := RX3) (T := TX3) (N := 14) (g := 0) (i := 0) (As := [.ref (ad 6 1)]) (rest := []) ⟨hx, hb, hml, hown, hts⟩ (kX3_wrongItem_1 l D ca ad A st) (cwV 1 hts gX3_putTogether_X3_wrongItem rfl rfl rfl (by decide +kernel) ⟨Nat.le_of_ble_eq_true rfl, Nat.le_of_ble_eq_true rfl⟩) hC hP hS (ow_q0_0) rfl rfl rfl hl.1 rfl (Nat.le_of_ble_eq_true rfl) dX3_putTogether_2 ⟨Nat.zero_le _, Nat.zero_le _⟩) hS (fun H locs hP hS => ?_)
  refine lv_istore_n (lv' := [(2, .int (fX3_wrongItem_1 st)), (0, .ref (ad 0 0)), (1, .ref (ad 6 1))]) hx hb dX3_putTogether_5 rfl hl (by decide) rfl (fun ls hl => ?_)
  refine lv_iload_n hx hb dX3_putTogether_6 rfl (lv_at hl 0 rfl) ?_
  refine lv_iconst (v := (-1)) hx hb dX3_putTogether_7 (by decide) ?_
  refine lv_icmp_eq (tgt := 26) hx hb dX3_putTogether_8 (by decide) (fun c_1 => ?_) (fun c_1 => ?_)
  · refine lv_iconst (v := 0) hx hb dX3_putTogether_26 (by decide) ?_
    refine lv_istore_n (lv' := [(3, .int 0), (2, .int (fX3_wrongItem_1 st)), (0, .ref (ad 0 0)), (1, .ref (ad 6 1))]) hx hb dX3_putTogether_27 rfl hl (by decide) rfl (fun ls hl => ?_)
    refine lv_iload_n hx hb dX3_putTogether_28 rfl (lv_at hl 0 rfl) ?_
    refine lv_aload_n hx hb dX3_putTogether_29 rfl (lv_at hl 3 rfl) ?_
    refine og_getN (C := RX2) (T := TX2) (N := 5) (g := 6) (i := 1) (v := .int 4) hx hb hts li_X3_putTogether_1_X2 hown hC hP (ow_q6_1) rfl rfl 1 (by decide) ln_X3_putTogether_1_0 rfl rfl dX3_putTogether_30 ?_
    refine lv_icmp_ge (tgt := 54) hx hb dX3_putTogether_33 (by decide) (fun c => absurd c (by decide)) (fun _ => ?_)
    refine lv_aload_n hx hb dX3_putTogether_36 rfl (lv_at hl 2 rfl) ?_
    refine og_get (C := RX3) (T := TX3) (N := 14) (g := 0) (i := 0) (v := .ref (ad 9 1)) hx hb hts li_X3_putTogether_1_X3 hown hC hP (ow_q0_0) rfl rfl 10 (by decide) (hts _ lk_X3_putTogether_1_3) rfl rfl dX3_putTogether_37 ?_
    refine lv_iload_n hx hb dX3_putTogether_40 rfl (lv_at hl 0 rfl) ?_
    refine lv_aload_n hx hb dX3_putTogether_41 rfl (lv_at hl 2 rfl) ?_
    refine og_get (C := RX3) (T := TX3) (N := 14) (g := 0) (i := 0) (v := .ref (ad 9 0)) hx hb hts li_X3_putTogether_1_X3 hown hC hP (ow_q0_0) rfl rfl 9 (by decide) (hts _ lk_X3_putTogether_1_4) rfl rfl dX3_putTogether_42 ?_
    refine lv_iload_n hx hb dX3_putTogether_45 rfl (lv_at hl 0 rfl) ?_
    refine og_iald (g := 9) (i := 0) (j := 0) (v := (st.1 103 0)) hx hb hC hP (ow_q9_0) rfl (by unfold vp_in; decide) rfl rfl dX3_putTogether_46 ?_
    refine og_iast (g := 9) (i := 1) (j := 0) (v := (st.1 103 0)) hx hb hC hP hS (ow_q9_1) rfl (by unfold vp_in; decide) rfl (we_9_1 st 0 (st.1 103 0)) dX3_putTogether_47 (fun H locs hP hS => ?_)
    obtain ⟨st2, e2⟩ : ∃ z, z = (ow_si st 107 0 (st.1 103 0)) := ⟨_, rfl⟩
    rw [← e2] at hP
    refine lv_iinc (v := 1) (lv' := [(3, .int 1), (2, .int (fX3_wrongItem_1 st)), (0, .ref (ad 0 0)), (1, .ref (ad 6 1))]) hx hb dX3_putTogether_48 hl (k := 0) rfl (by decide) (by decide) rfl (fun ls hl => ?_)
    refine lv_goto (tgt := 28) hx hb dX3_putTogether_51 (by decide) ?_
    refine lv_iload_n hx hb dX3_putTogether_28 rfl (lv_at hl 0 rfl) ?_
    refine lv_aload_n hx hb dX3_putTogether_29 rfl (lv_at hl 3 rfl) ?_
    refine og_getN (C := RX2) (T := TX2) (N := 5) (g := 6) (i := 1) (v := .int 4) hx hb hts li_X3_putTogether_1_X2 hown hC hP (ow_q6_1) rfl rfl 1 (by decide) ln_X3_putTogether_1_0 rfl rfl dX3_putTogether_30 ?_
    refine lv_icmp_ge (tgt := 54) hx hb dX3_putTogether_33 (by decide) (fun c => absurd c (by decide)) (fun _ => ?_)
    refine lv_aload_n hx hb dX3_putTogether_36 rfl (lv_at hl 2 rfl) ?_
    refine og_get (C := RX3) (T := TX3) (N := 14) (g := 0) (i := 0) (v := .ref (ad 9 1)) hx hb hts li_X3_putTogether_1_X3 hown hC hP (ow_q0_0) rfl rfl 10 (by decide) (hts _ lk_X3_putTogether_1_3) rfl rfl dX3_putTogether_37 ?_
    refine lv_iload_n hx hb dX3_putTogether_40 rfl (lv_at hl 0 rfl) ?_
    refine lv_aload_n hx hb dX3_putTogether_41 rfl (lv_at hl 2 rfl) ?_
    refine og_get (C := RX3) (T := TX3) (N := 14) (g := 0) (i := 0) (v := .ref (ad 9 0)) hx hb hts li_X3_putTogether_1_X3 hown hC hP (ow_q0_0) rfl rfl 9 (by decide) (hts _ lk_X3_putTogether_1_4) rfl rfl dX3_putTogether_42 ?_
    refine lv_iload_n hx hb dX3_putTogether_45 rfl (lv_at hl 0 rfl) ?_
    refine og_iald (g := 9) (i := 0) (j := 1) (v := (st2.1 103 1)) hx hb hC hP (ow_q9_0) rfl (by unfold vp_in; decide) rfl rfl dX3_putTogether_46 ?_
    refine og_iast (g := 9) (i := 1) (j := 1) (v := (st2.1 103 1)) hx hb hC hP hS (ow_q9_1) rfl (by unfold vp_in; decide) rfl (we_9_1 st2 1 (st2.1 103 1)) dX3_putTogether_47 (fun H locs hP hS => ?_)
    obtain ⟨st3, e3⟩ : ∃ z, z = (ow_si st2 107 1 (st2.1 103 1)) := ⟨_, rfl⟩
    rw [← e3] at hP
    refine lv_iinc (v := 2) (lv' := [(3, .int 2), (2, .int (fX3_wrongItem_1 st)), (0, .ref (ad 0 0)), (1, .ref (ad 6 1))]) hx hb dX3_putTogether_48 hl (k := 0) rfl (by decide) (by decide) rfl (fun ls hl => ?_)
    refine lv_goto (tgt := 28) hx hb dX3_putTogether_51 (by decide) ?_
    refine lv_iload_n hx hb dX3_putTogether_28 rfl (lv_at hl 0 rfl) ?_
    refine lv_aload_n hx hb dX3_putTogether_29 rfl (lv_at hl 3 rfl) ?_
    refine og_getN (C := RX2) (T := TX2) (N := 5) (g := 6) (i := 1) (v := .int 4) hx hb hts li_X3_putTogether_1_X2 hown hC hP (ow_q6_1) rfl rfl 1 (by decide) ln_X3_putTogether_1_0 rfl rfl dX3_putTogether_30 ?_
    refine lv_icmp_ge (tgt := 54) hx hb dX3_putTogether_33 (by decide) (fun c => absurd c (by decide)) (fun _ => ?_)
    refine lv_aload_n hx hb dX3_putTogether_36 rfl (lv_at hl 2 rfl) ?_
    refine og_get (C := RX3) (T := TX3) (N := 14) (g := 0) (i := 0) (v := .ref (ad 9 1)) hx hb hts li_X3_putTogether_1_X3 hown hC hP (ow_q0_0) rfl rfl 10 (by decide) (hts _ lk_X3_putTogether_1_3) rfl rfl dX3_putTogether_37 ?_
    refine lv_iload_n hx hb dX3_putTogether_40 rfl (lv_at hl 0 rfl) ?_
    refine lv_aload_n hx hb dX3_putTogether_41 rfl (lv_at hl 2 rfl) ?_
    refine og_get (C := RX3) (T := TX3) (N := 14) (g := 0) (i := 0) (v := .ref (ad 9 0)) hx hb hts li_X3_putTogether_1_X3 hown hC hP (ow_q0_0) rfl rfl 9 (by decide) (hts _ lk_X3_putTogether_1_4) rfl rfl dX3_putTogether_42 ?_
    refine lv_iload_n hx hb dX3_putTogether_45 rfl (lv_at hl 0 rfl) ?_
    refine og_iald (g := 9) (i := 0) (j := 2) (v := (st3.1 103 2)) hx hb hC hP (ow_q9_0) rfl (by unfold vp_in; decide) rfl rfl dX3_putTogether_46 ?_
    refine og_iast (g := 9) (i := 1) (j := 2) (v := (st3.1 103 2)) hx hb hC hP hS (ow_q9_1) rfl (by unfold vp_in; decide) rfl (we_9_1 st3 2 (st3.1 103 2)) dX3_putTogether_47 (fun H locs hP hS => ?_)
    obtain ⟨st4, e4⟩ : ∃ z, z = (ow_si st3 107 2 (st3.1 103 2)) := ⟨_, rfl⟩
    rw [← e4] at hP
    refine lv_iinc (v := 3) (lv' := [(3, .int 3), (2, .int (fX3_wrongItem_1 st)), (0, .ref (ad 0 0)), (1, .ref (ad 6 1))]) hx hb dX3_putTogether_48 hl (k := 0) rfl (by decide) (by decide) rfl (fun ls hl => ?_)
    refine lv_goto (tgt := 28) hx hb dX3_putTogether_51 (by decide) ?_
    refine lv_iload_n hx hb dX3_putTogether_28 rfl (lv_at hl 0 rfl) ?_
    refine lv_aload_n hx hb dX3_putTogether_29 rfl (lv_at hl 3 rfl) ?_
    refine og_getN (C := RX2) (T := TX2) (N := 5) (g := 6) (i := 1) (v := .int 4) hx hb hts li_X3_putTogether_1_X2 hown hC hP (ow_q6_1) rfl rfl 1 (by decide) ln_X3_putTogether_1_0 rfl rfl dX3_putTogether_30 ?_
    refine lv_icmp_ge (tgt := 54) hx hb dX3_putTogether_33 (by decide) (fun c => absurd c (by decide)) (fun _ => ?_)
    refine lv_aload_n hx hb dX3_putTogether_36 rfl (lv_at hl 2 rfl) ?_
    refine og_get (C := RX3) (T := TX3) (N := 14) (g := 0) (i := 0) (v := .ref (ad 9 1)) hx hb hts li_X3_putTogether_1_X3 hown hC hP (ow_q0_0) rfl rfl 10 (by decide) (hts _ lk_X3_putTogether_1_3) rfl rfl dX3_putTogether_37 ?_
    refine lv_iload_n hx hb dX3_putTogether_40 rfl (lv_at hl 0 rfl) ?_
    refine lv_aload_n hx hb dX3_putTogether_41 rfl (lv_at hl 2 rfl) ?_
    refine og_get (C := RX3) (T := TX3) (N := 14) (g := 0) (i := 0) (v := .ref (ad 9 0)) hx hb hts li_X3_putTogether_1_X3 hown hC hP (ow_q0_0) rfl rfl 9 (by decide) (hts _ lk_X3_putTogether_1_4) rfl rfl dX3_putTogether_42 ?_
    refine lv_iload_n hx hb dX3_putTogether_45 rfl (lv_at hl 0 rfl) ?_
    refine og_iald (g := 9) (i := 0) (j := 3) (v := (st4.1 103 3)) hx hb hC hP (ow_q9_0) rfl (by unfold vp_in; decide) rfl rfl dX3_putTogether_46 ?_
    refine og_iast (g := 9) (i := 1) (j := 3) (v := (st4.1 103 3)) hx hb hC hP hS (ow_q9_1) rfl (by unfold vp_in; decide) rfl (we_9_1 st4 3 (st4.1 103 3)) dX3_putTogether_47 (fun H locs hP hS => ?_)
    obtain ⟨st5, e5⟩ : ∃ z, z = (ow_si st4 107 3 (st4.1 103 3)) := ⟨_, rfl⟩
    rw [← e5] at hP
    refine lv_iinc (v := 4) (lv' := [(3, .int 4), (2, .int (fX3_wrongItem_1 st)), (0, .ref (ad 0 0)), (1, .ref (ad 6 1))]) hx hb dX3_putTogether_48 hl (k := 0) rfl (by decide) (by decide) rfl (fun ls hl => ?_)
    refine lv_goto (tgt := 28) hx hb dX3_putTogether_51 (by decide) ?_
    refine lv_iload_n hx hb dX3_putTogether_28 rfl (lv_at hl 0 rfl) ?_
    refine lv_aload_n hx hb dX3_putTogether_29 rfl (lv_at hl 3 rfl) ?_
    refine og_getN (C := RX2) (T := TX2) (N := 5) (g := 6) (i := 1) (v := .int 4) hx hb hts li_X3_putTogether_1_X2 hown hC hP (ow_q6_1) rfl rfl 1 (by decide) ln_X3_putTogether_1_0 rfl rfl dX3_putTogether_30 ?_
    refine lv_icmp_ge (tgt := 54) hx hb dX3_putTogether_33 (by decide) (fun _ => ?_) (fun c => absurd (by decide) c)
    refine lv_aload_n hx hb dX3_putTogether_54 rfl (lv_at hl 2 rfl) ?_
    refine lv_aload_n hx hb dX3_putTogether_55 rfl (lv_at hl 3 rfl) ?_
    refine og_put (C := RX3) (T := TX3) (N := 14) (g := 0) (i := 0) (v := .ref (ad 6 1)) (ty := .object "RecordLabels$Table") hx hb hts li_X3_putTogether_1_X3 tyX3 tyX3_ok nmX3 hown hC hP hS (ow_q0_0) rfl rfl 11 (by decide) (hts _ lk_X3_putTogether_1_5) rfl rfl (by decide +kernel) rfl rfl (Nat.le_of_ble_eq_true rfl) (we_0_p st5 1) dX3_putTogether_56 (fun H locs hP hS => ?_)
    obtain ⟨st6, e6⟩ : ∃ z, z = (ow_sr st5 0 2) := ⟨_, rfl⟩
    rw [← e6] at hP
    refine lv_iconst (v := 1) hx hb dX3_putTogether_59 (by decide) ?_
    exact W.iret (v := 1) hx hb hr (fun t ht hW => ⟨⟨1, st6, rfl, (by subst e6; subst e5; subst e4; subst e3; subst e2; simp only [fX3_putTogether_1, if_pos c_1]), ow_Bi ht hP⟩, hS.F ht⟩) hS.2.2 dX3_putTogether_60
  · refine lv_aload_n hx hb dX3_putTogether_11 rfl (lv_at hl 1 rfl) ?_
    refine lv_dup hx hb dX3_putTogether_12 rfl ?_
    refine og_get (C := RX3) (T := TX3) (N := 14) (g := 0) (i := 0) (v := .int (st.1 0 1)) hx hb hts li_X3_putTogether_1_X3 hown hC hP (ow_q0_0) rfl rfl 8 (by decide) (hts _ lk_X3_putTogether_1_6) rfl rfl dX3_putTogether_13 ?_
    refine lv_iconst (v := 1) hx hb dX3_putTogether_16 (by decide) ?_
    refine lv_iadd hx hb dX3_putTogether_17 ?_
    refine og_put (C := RX3) (T := TX3) (N := 14) (g := 0) (i := 0) (v := .int ((st.1 0 1) + 1)) (ty := .int) hx hb hts li_X3_putTogether_1_X3 tyX3 tyX3_ok nmX3 hown hC hP hS (ow_q0_0) rfl rfl 8 (by decide) (hts _ lk_X3_putTogether_1_6) rfl rfl (by decide +kernel) rfl rfl (Nat.le_of_ble_eq_true rfl) (we_0_1 st ((st.1 0 1) + 1)) dX3_putTogether_18 (fun H locs hP hS => ?_)
    obtain ⟨st7, e7⟩ : ∃ z, z = (ow_si st 0 1 ((st.1 0 1) + 1)) := ⟨_, rfl⟩
    rw [← e7] at hP
    refine lv_bipush (v := (-10)) hx hb dX3_putTogether_21 (by decide) ?_
    refine lv_iload_n hx hb dX3_putTogether_23 rfl (lv_at hl 0 rfl) ?_
    refine lv_isub hx hb dX3_putTogether_24 ?_
    exact W.iret (v := ((-10) - (fX3_wrongItem_1 st))) hx hb hr (fun t ht hW => ⟨⟨((-10) - (fX3_wrongItem_1 st)), st7, rfl, (by subst e7; simp only [fX3_putTogether_1, if_neg c_1]), ow_Bi ht hP⟩, hS.F ht⟩) hS.2.2 dX3_putTogether_25

theorem sf_fr {st : ow_St} {k i : Nat} : (fX0_startForRule st k).2.1 4 i = st.1 4 i := by
  unfold fX0_startForRule
  repeat' split
  all_goals (try simp (disch := decide) only [ow_si_ne])

theorem dr_fr_0 {st : ow_St} {x : Int32} {c i : Nat} (h : c ≠ 103) : (fX3_draftOf_0 st x).1 c i = st.1 c i := by
  unfold fX3_draftOf_0
  split
  · rfl
  · simp only [ow_si_ne h]
theorem dr_rf_0 {st : ow_St} {x : Int32} : (fX3_draftOf_0 st x).2 = st.2 := by
  unfold fX3_draftOf_0
  split
  · rfl
  · rfl
theorem pu_fr_0 {st : ow_St} {c i : Nat} (h : c ≠ 107) (h0 : c ≠ 0) : (fX3_putTogether_0 st).2.1 c i = st.1 c i := by
  unfold fX3_putTogether_0
  split
  · simp only [ow_sr_i, ow_si_ne h]
  · simp only [ow_si_ne h0]
theorem ak_fr_0 {st : ow_St} {a : Int32} {v : Int64} {i : Nat} : (fX3_askRule_0 st a v).2.1 4 i = st.1 4 i := by
  have h1 := sf_fr (st := st) (k := 0) (i := i)
  unfold fX3_askRule_0
  dsimp only
  generalize (fX0_startForRule st 0) = z at h1 ⊢
  repeat' split
  all_goals (try simp (disch := decide) only [ow_si_ne])
  all_goals exact h1


theorem dr_fr_1 {st : ow_St} {x : Int32} {c i : Nat} (h : c ≠ 103) : (fX3_draftOf_1 st x).1 c i = st.1 c i := by
  unfold fX3_draftOf_1
  split
  · rfl
  · simp only [ow_si_ne h]
theorem dr_rf_1 {st : ow_St} {x : Int32} : (fX3_draftOf_1 st x).2 = st.2 := by
  unfold fX3_draftOf_1
  split
  · rfl
  · rfl
theorem pu_fr_1 {st : ow_St} {c i : Nat} (h : c ≠ 107) (h0 : c ≠ 0) : (fX3_putTogether_1 st).2.1 c i = st.1 c i := by
  unfold fX3_putTogether_1
  split
  · simp only [ow_sr_i, ow_si_ne h]
  · simp only [ow_si_ne h0]
theorem ak_fr_1 {st : ow_St} {a : Int32} {v : Int64} {i : Nat} : (fX3_askRule_1 st a v).2.1 4 i = st.1 4 i := by
  have h1 := sf_fr (st := st) (k := 1) (i := i)
  unfold fX3_askRule_1
  dsimp only
  generalize (fX0_startForRule st 1) = z at h1 ⊢
  repeat' split
  all_goals (try simp (disch := decide) only [ow_si_ne])
  all_goals exact h1
