theorem li_X3_kindNumbered_X3 : ∀ w ∈ u_ws RX3 TX3 14, w ∈ wsX3_kindNumbered := by decide +kernel
theorem lk_X3_kindNumbered_1 : (.fieldLink RX3 18 "RecordLabels" "nodeKind" "LRecordLabels$Kind;" : Cond) ∈ wsX3_kindNumbered := by decide +kernel
theorem lk_X3_kindNumbered_2 : (.fieldLink RX3 25 "RecordLabels" "arcKind" "LRecordLabels$Kind;" : Cond) ∈ wsX3_kindNumbered := by decide +kernel
theorem lk_X3_kindNumbered_3 : (.fieldLink RX3 31 "RecordLabels" "signKind" "LRecordLabels$Kind;" : Cond) ∈ wsX3_kindNumbered := by decide +kernel
def fX3_kindNumbered (ad : ow_Ad) (st : ow_St) (x1 : Int32) : Option Nat := (if x1 = 0 then some (ad 1 0) else (if x1 = 1 then some (ad 1 1) else (if x1 = 2 then some (ad 1 2) else none)))
set_option maxHeartbeats 4000000 in
set_option maxRecDepth 100000 in
theorem kX3_kindNumbered (l : Launch) (D : va_G) (ca : Nat → ClassId) (ad : ow_Ad) (A : Nat → Prop) (st : ow_St) (x1 : Int32) : Met l yX3_kindNumbered wsX3_kindNumbered ({ frames := 0, cells := 0, slots := 0, locals := 0 }) (va_Pc [.ref (ad 0 0), .int x1] (ow_W D ca ad A st)) (va_Qq (fun r st' => r = (fX3_kindNumbered ad st x1) ∧ st' = st) (ow_B D ca ad) A) 0 0 A := by
  refine Met.ofW (cc := cX3_kindNumbered) (maxL := 2) (ret := (some (.object "RecordLabels$Kind"))) (by decide) rfl ?_
  intro p e s m args below meth c s₁ B hml hv
  obtain ⟨rfl, hP, hC⟩ := hv
  have hx := B.exec
  have hb := B.bytes
  have hr := B.returns
  have hts := atoms_spec (ws := wsX3_kindNumbered) B.pre
  have hown : s.vm.findClass RX3 = some m.cls := findClass_of_methodNamed B.named
  have hlocks := B.notSynchronized
  have hS : va_S A s.heap s.heap [] := va_S.rf
  have hl := lv_entry ([.ref (ad 0 0), .int x1]) (n := 2) (Nat.le_of_ble_eq_true rfl)
  rw [lg_entry_eq]
  generalize (lg_sl ([.ref (ad 0 0), .int x1]) ++ List.replicate (2 - (lg_sl ([.ref (ad 0 0), .int x1])).length) Slot.unset).toArray = ls at hl ⊢
  have hl : lv_has ls 2 [(0, .ref (ad 0 0)), (1, .int x1)] := hl
  refine lv_iload_n hx hb dX3_kindNumbered_0 rfl (lv_at hl 1 rfl) ?_
  by_cases c_1 : x1 = 0
  · refine lv_tableIn (tgt := 28) (off := 27) hx hb dX3_kindNumbered_1 (by rw [c_1]; decide) (by rw [c_1]; decide) (by rw [c_1]; rfl) (by decide) ?_
    refine lv_aload_n hx hb dX3_kindNumbered_28 rfl (lv_at hl 0 rfl) ?_
    refine og_get (C := RX3) (T := TX3) (N := 14) (g := 0) (i := 0) (v := .ref (ad 1 0)) hx hb hts li_X3_kindNumbered_X3 hown hC hP (ow_q0_0) rfl rfl 0 (by decide) (hts _ lk_X3_kindNumbered_1) rfl rfl dX3_kindNumbered_29 ?_
    exact W.aret (v := va_rf (some (ad 1 0))) hx hb hr (Or.inl ⟨_, rfl⟩) (Or.inr ⟨_, rfl⟩) (fun t ht hW => ⟨⟨(some (ad 1 0)), st, rfl, ⟨(by simp only [fX3_kindNumbered, if_pos c_1]), rfl⟩, ow_Bi ht hP⟩, hS.F ht⟩) hS.2.2 dX3_kindNumbered_32
  · by_cases c_2 : x1 = 1
    · refine lv_tableIn (tgt := 33) (off := 32) hx hb dX3_kindNumbered_1 (by rw [c_2]; decide) (by rw [c_2]; decide) (by rw [c_2]; rfl) (by decide) ?_
      refine lv_aload_n hx hb dX3_kindNumbered_33 rfl (lv_at hl 0 rfl) ?_
      refine og_get (C := RX3) (T := TX3) (N := 14) (g := 0) (i := 0) (v := .ref (ad 1 1)) hx hb hts li_X3_kindNumbered_X3 hown hC hP (ow_q0_0) rfl rfl 1 (by decide) (hts _ lk_X3_kindNumbered_2) rfl rfl dX3_kindNumbered_34 ?_
      exact W.aret (v := va_rf (some (ad 1 1))) hx hb hr (Or.inl ⟨_, rfl⟩) (Or.inr ⟨_, rfl⟩) (fun t ht hW => ⟨⟨(some (ad 1 1)), st, rfl, ⟨(by simp only [fX3_kindNumbered, if_neg c_1, if_pos c_2]), rfl⟩, ow_Bi ht hP⟩, hS.F ht⟩) hS.2.2 dX3_kindNumbered_37
    · by_cases c_3 : x1 = 2
      · refine lv_tableIn (tgt := 38) (off := 37) hx hb dX3_kindNumbered_1 (by rw [c_3]; decide) (by rw [c_3]; decide) (by rw [c_3]; rfl) (by decide) ?_
        refine lv_aload_n hx hb dX3_kindNumbered_38 rfl (lv_at hl 0 rfl) ?_
        refine og_get (C := RX3) (T := TX3) (N := 14) (g := 0) (i := 0) (v := .ref (ad 1 2)) hx hb hts li_X3_kindNumbered_X3 hown hC hP (ow_q0_0) rfl rfl 2 (by decide) (hts _ lk_X3_kindNumbered_3) rfl rfl dX3_kindNumbered_39 ?_
        exact W.aret (v := va_rf (some (ad 1 2))) hx hb hr (Or.inl ⟨_, rfl⟩) (Or.inr ⟨_, rfl⟩) (fun t ht hW => ⟨⟨(some (ad 1 2)), st, rfl, ⟨(by simp only [fX3_kindNumbered, if_neg c_1, if_neg c_2, if_pos c_3]), rfl⟩, ow_Bi ht hP⟩, hS.F ht⟩) hS.2.2 dX3_kindNumbered_42
      · refine lv_tableOut (tgt := 43) hx hb dX3_kindNumbered_1 (by have h0 := ow_ne (n := 0) 0 rfl c_1; have h1 := ow_ne (n := 1) 1 rfl c_2; have h2 := ow_ne (n := 2) 2 rfl c_3; omega) (by decide) ?_
        refine lv_null hx hb dX3_kindNumbered_43 ?_
        exact W.aret (v := va_rf none) hx hb hr (Or.inl ⟨_, rfl⟩) (Or.inl rfl) (fun t ht hW => ⟨⟨none, st, rfl, ⟨(by simp only [fX3_kindNumbered, if_neg c_1, if_neg c_2, if_neg c_3]), rfl⟩, ow_Bi ht hP⟩, hS.F ht⟩) hS.2.2 dX3_kindNumbered_44

theorem li_X3_tableNumbered_X3 : ∀ w ∈ u_ws RX3 TX3 14, w ∈ wsX3_tableNumbered := by decide +kernel
theorem lk_X3_tableNumbered_1 : (.fieldLink RX3 45 "RecordLabels" "nodeTable" "LRecordLabels$Table;" : Cond) ∈ wsX3_tableNumbered := by decide +kernel
theorem lk_X3_tableNumbered_2 : (.fieldLink RX3 49 "RecordLabels" "arcTable" "LRecordLabels$Table;" : Cond) ∈ wsX3_tableNumbered := by decide +kernel
def fX3_tableNumbered (ad : ow_Ad) (st : ow_St) (x1 : Int32) : Option Nat := (if x1 = 0 then some (ad 6 0) else (if x1 = 1 then some (ad 6 1) else none))
set_option maxHeartbeats 4000000 in
set_option maxRecDepth 100000 in
theorem kX3_tableNumbered (l : Launch) (D : va_G) (ca : Nat → ClassId) (ad : ow_Ad) (A : Nat → Prop) (st : ow_St) (x1 : Int32) : Met l yX3_tableNumbered wsX3_tableNumbered ({ frames := 0, cells := 0, slots := 0, locals := 0 }) (va_Pc [.ref (ad 0 0), .int x1] (ow_W D ca ad A st)) (va_Qq (fun r st' => r = (fX3_tableNumbered ad st x1) ∧ st' = st) (ow_B D ca ad) A) 0 0 A := by
  refine Met.ofW (cc := cX3_tableNumbered) (maxL := 2) (ret := (some (.object "RecordLabels$Table"))) (by decide) rfl ?_
  intro p e s m args below meth c s₁ B hml hv
  obtain ⟨rfl, hP, hC⟩ := hv
  have hx := B.exec
  have hb := B.bytes
  have hr := B.returns
  have hts := atoms_spec (ws := wsX3_tableNumbered) B.pre
  have hown : s.vm.findClass RX3 = some m.cls := findClass_of_methodNamed B.named
  have hlocks := B.notSynchronized
  have hS : va_S A s.heap s.heap [] := va_S.rf
  have hl := lv_entry ([.ref (ad 0 0), .int x1]) (n := 2) (Nat.le_of_ble_eq_true rfl)
  rw [lg_entry_eq]
  generalize (lg_sl ([.ref (ad 0 0), .int x1]) ++ List.replicate (2 - (lg_sl ([.ref (ad 0 0), .int x1])).length) Slot.unset).toArray = ls at hl ⊢
  have hl : lv_has ls 2 [(0, .ref (ad 0 0)), (1, .int x1)] := hl
  refine lv_iload_n hx hb dX3_tableNumbered_0 rfl (lv_at hl 1 rfl) ?_
  by_cases c_1 : x1 = 0
  · refine lv_lookup (tgt := 28) (off := 27) hx hb dX3_tableNumbered_1 (by decide) (by rw [c_1]; decide) (by decide) ?_
    refine lv_aload_n hx hb dX3_tableNumbered_28 rfl (lv_at hl 0 rfl) ?_
    refine og_get (C := RX3) (T := TX3) (N := 14) (g := 0) (i := 0) (v := .ref (ad 6 0)) hx hb hts li_X3_tableNumbered_X3 hown hC hP (ow_q0_0) rfl rfl 4 (by decide) (hts _ lk_X3_tableNumbered_1) rfl rfl dX3_tableNumbered_29 ?_
    exact W.aret (v := va_rf (some (ad 6 0))) hx hb hr (Or.inl ⟨_, rfl⟩) (Or.inr ⟨_, rfl⟩) (fun t ht hW => ⟨⟨(some (ad 6 0)), st, rfl, ⟨(by simp only [fX3_tableNumbered, if_pos c_1]), rfl⟩, ow_Bi ht hP⟩, hS.F ht⟩) hS.2.2 dX3_tableNumbered_32
  · by_cases c_2 : x1 = 1
    · refine lv_lookup (tgt := 33) (off := 32) hx hb dX3_tableNumbered_1 (by decide) (by rw [c_2]; decide) (by decide) ?_
      refine lv_aload_n hx hb dX3_tableNumbered_33 rfl (lv_at hl 0 rfl) ?_
      refine og_get (C := RX3) (T := TX3) (N := 14) (g := 0) (i := 0) (v := .ref (ad 6 1)) hx hb hts li_X3_tableNumbered_X3 hown hC hP (ow_q0_0) rfl rfl 5 (by decide) (hts _ lk_X3_tableNumbered_2) rfl rfl dX3_tableNumbered_34 ?_
      exact W.aret (v := va_rf (some (ad 6 1))) hx hb hr (Or.inl ⟨_, rfl⟩) (Or.inr ⟨_, rfl⟩) (fun t ht hW => ⟨⟨(some (ad 6 1)), st, rfl, ⟨(by simp only [fX3_tableNumbered, if_neg c_1, if_pos c_2]), rfl⟩, ow_Bi ht hP⟩, hS.F ht⟩) hS.2.2 dX3_tableNumbered_37
    · refine lv_lookup (tgt := 38) (off := 37) hx hb dX3_tableNumbered_1 (by decide) (by simp only []; rw [lv_osw (k := 0) (a := 0) c_1 rfl]; rw [lv_osw (k := 1) (a := 1) c_2 rfl]; rfl) (by decide) ?_
      refine lv_null hx hb dX3_tableNumbered_38 ?_
      exact W.aret (v := va_rf none) hx hb hr (Or.inl ⟨_, rfl⟩) (Or.inl rfl) (fun t ht hW => ⟨⟨none, st, rfl, ⟨(by simp only [fX3_tableNumbered, if_neg c_1, if_neg c_2]), rfl⟩, ow_Bi ht hP⟩, hS.F ht⟩) hS.2.2 dX3_tableNumbered_39

theorem li_X3_setNumbered_X3 : ∀ w ∈ u_ws RX3 TX3 14, w ∈ wsX3_setNumbered := by decide +kernel
theorem lk_X3_setNumbered_1 : (.fieldLink RX3 36 "RecordLabels" "sets" "[LRecordLabels$LabelSet;" : Cond) ∈ wsX3_setNumbered := by decide +kernel
def fX3_setNumbered (ad : ow_Ad) (st : ow_St) (x1 : Int32) : Option Nat := (if x1 < 0 then none else (if 10 ≤ x1 then none else some (ad 5 x1.toNatClampNeg)))
set_option maxHeartbeats 4000000 in
set_option maxRecDepth 100000 in
theorem kX3_setNumbered (l : Launch) (D : va_G) (ca : Nat → ClassId) (ad : ow_Ad) (A : Nat → Prop) (st : ow_St) (x1 : Int32) : Met l yX3_setNumbered wsX3_setNumbered ({ frames := 0, cells := 0, slots := 0, locals := 0 }) (va_Pc [.ref (ad 0 0), .int x1] (ow_W D ca ad A st)) (va_Qq (fun r st' => r = (fX3_setNumbered ad st x1) ∧ st' = st) (ow_B D ca ad) A) 0 0 A := by
  refine Met.ofW (cc := cX3_setNumbered) (maxL := 2) (ret := (some (.object "RecordLabels$LabelSet"))) (by decide) rfl ?_
  intro p e s m args below meth c s₁ B hml hv
  obtain ⟨rfl, hP, hC⟩ := hv
  have hx := B.exec
  have hb := B.bytes
  have hr := B.returns
  have hts := atoms_spec (ws := wsX3_setNumbered) B.pre
  have hown : s.vm.findClass RX3 = some m.cls := findClass_of_methodNamed B.named
  have hlocks := B.notSynchronized
  have hS : va_S A s.heap s.heap [] := va_S.rf
  have hl := lv_entry ([.ref (ad 0 0), .int x1]) (n := 2) (Nat.le_of_ble_eq_true rfl)
  rw [lg_entry_eq]
  generalize (lg_sl ([.ref (ad 0 0), .int x1]) ++ List.replicate (2 - (lg_sl ([.ref (ad 0 0), .int x1])).length) Slot.unset).toArray = ls at hl ⊢
  have hl : lv_has ls 2 [(0, .ref (ad 0 0)), (1, .int x1)] := hl
  refine lv_iload_n hx hb dX3_setNumbered_0 rfl (lv_at hl 1 rfl) ?_
  refine lv_if_lt (tgt := 19) hx hb dX3_setNumbered_1 (by decide) (fun c_1 => ?_) (fun c_1 => ?_)
  · refine lv_null hx hb dX3_setNumbered_19 ?_
    exact W.aret (v := va_rf none) hx hb hr (Or.inl ⟨_, rfl⟩) (Or.inl rfl) (fun t ht hW => ⟨⟨none, st, rfl, ⟨(by simp only [fX3_setNumbered, if_pos c_1]), rfl⟩, ow_Bi ht hP⟩, hS.F ht⟩) hS.2.2 dX3_setNumbered_20
  · refine lv_iload_n hx hb dX3_setNumbered_4 rfl (lv_at hl 1 rfl) ?_
    refine lv_bipush (v := 10) hx hb dX3_setNumbered_5 (by decide) ?_
    refine lv_icmp_ge (tgt := 19) hx hb dX3_setNumbered_7 (by decide) (fun c_2 => ?_) (fun c_2 => ?_)
    · refine lv_null hx hb dX3_setNumbered_19 ?_
      exact W.aret (v := va_rf none) hx hb hr (Or.inl ⟨_, rfl⟩) (Or.inl rfl) (fun t ht hW => ⟨⟨none, st, rfl, ⟨(by simp only [fX3_setNumbered, if_neg c_1, if_pos c_2]), rfl⟩, ow_Bi ht hP⟩, hS.F ht⟩) hS.2.2 dX3_setNumbered_20
    · refine lv_aload_n hx hb dX3_setNumbered_10 rfl (lv_at hl 0 rfl) ?_
      refine og_get (C := RX3) (T := TX3) (N := 14) (g := 0) (i := 0) (v := .ref (ad 4 0)) hx hb hts li_X3_setNumbered_X3 hown hC hP (ow_q0_0) rfl rfl 3 (by decide) (hts _ lk_X3_setNumbered_1) rfl rfl dX3_setNumbered_11 ?_
      refine lv_iload_n hx hb dX3_setNumbered_14 rfl (lv_at hl 1 rfl) ?_
      refine og_aald (g := 4) (i := 0) (v := ad 5 x1.toNatClampNeg) (C := "RecordLabels$LabelSet") (t0 := 3) hx hb hC hP ow_q4_0 rfl rfl (ow_i10 c_1 c_2) (if_pos (ow_b10 c_1 c_2)) dX3_setNumbered_15 ?_
      refine lv_goto (tgt := 20) hx hb dX3_setNumbered_16 (by decide) ?_
      exact W.aret (v := va_rf (some (ad 5 x1.toNatClampNeg))) hx hb hr (Or.inl ⟨_, rfl⟩) (Or.inr ⟨_, rfl⟩) (fun t ht hW => ⟨⟨(some (ad 5 x1.toNatClampNeg)), st, rfl, ⟨(by simp only [fX3_setNumbered, if_neg c_1, if_neg c_2]), rfl⟩, ow_Bi ht hP⟩, hS.F ht⟩) hS.2.2 dX3_setNumbered_20

theorem setN_b {x : Int32} (h : ¬ (x < 0 ∨ 10 ≤ x)) : x.toNatClampNeg < 10 := ow_b10 (fun a => h (Or.inl a)) (fun a => h (Or.inr a))
theorem setN_none {ad : ow_Ad} {st : ow_St} {x : Int32} (h : x < 0 ∨ 10 ≤ x) : fX3_setNumbered ad st x = none := by
  unfold fX3_setNumbered
  by_cases c1 : x < 0
  · rw [if_pos c1]
  · rw [if_neg c1]
    rcases h with h | h
    · exact absurd h c1
    · rw [if_pos h]
theorem setN_some {ad : ow_Ad} {st : ow_St} {x : Int32} (h : ¬ (x < 0 ∨ 10 ≤ x)) : fX3_setNumbered ad st x = some (ad 5 x.toNatClampNeg) := by
  unfold fX3_setNumbered
  rw [if_neg (fun a => h (Or.inl a)), if_neg (fun a => h (Or.inr a))]

def fX3_oneIf (st : ow_St) (x0 : Int32) : Int32 := (if x0 = 0 then 0 else 1)
set_option maxHeartbeats 4000000 in
set_option maxRecDepth 100000 in
theorem kX3_oneIf (l : Launch) (D : va_G) (ca : Nat → ClassId) (ad : ow_Ad) (A : Nat → Prop) (st : ow_St) (x0 : Int32) : Met l yX3_oneIf wsX3_oneIf ({ frames := 0, cells := 0, slots := 0, locals := 0 }) (va_Pc [.int x0] (ow_W D ca ad A st)) (va_Qi (fun r st' => r = (fX3_oneIf st x0) ∧ st' = st) (ow_B D ca ad) A) 0 0 A := by
  refine Met.ofW (cc := cX3_oneIf) (maxL := 1) (ret := (some .int)) (by decide) rfl ?_
  intro p e s m args below meth c s₁ B hml hv
  obtain ⟨rfl, hP, hC⟩ := hv
  have hx := B.exec
  have hb := B.bytes
  have hr := B.returns
  have hts := atoms_spec (ws := wsX3_oneIf) B.pre
  have hown : s.vm.findClass RX3 = some m.cls := findClass_of_methodNamed B.named
  have hlocks := B.notSynchronized
  have hS : va_S A s.heap s.heap [] := va_S.rf
  have hl := lv_entry ([.int x0]) (n := 1) (Nat.le_of_ble_eq_true rfl)
  rw [lg_entry_eq]
  generalize (lg_sl ([.int x0]) ++ List.replicate (1 - (lg_sl ([.int x0])).length) Slot.unset).toArray = ls at hl ⊢
  have hl : lv_has ls 1 [(0, .int x0)] := hl
  refine lv_iload_n hx hb dX3_oneIf_0 rfl (lv_at hl 0 rfl) ?_
  refine lv_if_eq (tgt := 8) hx hb dX3_oneIf_1 (by decide) (fun c_1 => ?_) (fun c_1 => ?_)
  · refine lv_iconst (v := 0) hx hb dX3_oneIf_8 (by decide) ?_
    exact W.iret (v := 0) hx hb hr (fun t ht hW => ⟨⟨0, st, rfl, ⟨(by simp only [fX3_oneIf, if_pos c_1]), rfl⟩, ow_Bi ht hP⟩, hS.F ht⟩) hS.2.2 dX3_oneIf_9
  · refine lv_iconst (v := 1) hx hb dX3_oneIf_4 (by decide) ?_
    refine lv_goto (tgt := 9) hx hb dX3_oneIf_5 (by decide) ?_
    exact W.iret (v := 1) hx hb hr (fun t ht hW => ⟨⟨1, st, rfl, ⟨(by simp only [fX3_oneIf, if_neg c_1]), rfl⟩, ow_Bi ht hP⟩, hS.F ht⟩) hS.2.2 dX3_oneIf_9

def fX3_isFromTo (st : ow_St) (x0 x1 x2 : Int32) : Int32 := (if x0 < x1 then 0 else (if x2 < x0 then 0 else 1))
set_option maxHeartbeats 4000000 in
set_option maxRecDepth 100000 in
theorem kX3_isFromTo (l : Launch) (D : va_G) (ca : Nat → ClassId) (ad : ow_Ad) (A : Nat → Prop) (st : ow_St) (x0 : Int32) (x1 : Int32) (x2 : Int32) : Met l yX3_isFromTo wsX3_isFromTo ({ frames := 0, cells := 0, slots := 0, locals := 0 }) (va_Pc [.int x0, .int x1, .int x2] (ow_W D ca ad A st)) (va_Qi (fun r st' => r = (fX3_isFromTo st x0 x1 x2) ∧ st' = st) (ow_B D ca ad) A) 0 0 A := by
  refine Met.ofW (cc := cX3_isFromTo) (maxL := 3) (ret := (some .boolean)) (by decide) rfl ?_
  intro p e s m args below meth c s₁ B hml hv
  obtain ⟨rfl, hP, hC⟩ := hv
  have hx := B.exec
  have hb := B.bytes
  have hr := B.returns
  have hts := atoms_spec (ws := wsX3_isFromTo) B.pre
  have hown : s.vm.findClass RX3 = some m.cls := findClass_of_methodNamed B.named
  have hlocks := B.notSynchronized
  have hS : va_S A s.heap s.heap [] := va_S.rf
  have hl := lv_entry ([.int x0, .int x1, .int x2]) (n := 3) (Nat.le_of_ble_eq_true rfl)
  rw [lg_entry_eq]
  generalize (lg_sl ([.int x0, .int x1, .int x2]) ++ List.replicate (3 - (lg_sl ([.int x0, .int x1, .int x2])).length) Slot.unset).toArray = ls at hl ⊢
  have hl : lv_has ls 3 [(0, .int x0), (1, .int x1), (2, .int x2)] := hl
  refine lv_iload_n hx hb dX3_isFromTo_0 rfl (lv_at hl 0 rfl) ?_
  refine lv_iload_n hx hb dX3_isFromTo_1 rfl (lv_at hl 1 rfl) ?_
  refine lv_icmp_lt (tgt := 14) hx hb dX3_isFromTo_2 (by decide) (fun c_1 => ?_) (fun c_1 => ?_)
  · refine lv_iconst (v := 0) hx hb dX3_isFromTo_14 (by decide) ?_
    exact W.zret (v := 0) hx hb hr rfl (fun t ht hW => ⟨⟨0, st, rfl, ⟨(by simp only [fX3_isFromTo, if_pos c_1]), rfl⟩, ow_Bi ht hP⟩, hS.F ht⟩) hS.2.2 dX3_isFromTo_15
  · refine lv_iload_n hx hb dX3_isFromTo_5 rfl (lv_at hl 0 rfl) ?_
    refine lv_iload_n hx hb dX3_isFromTo_6 rfl (lv_at hl 2 rfl) ?_
    refine lv_icmp_gt (tgt := 14) hx hb dX3_isFromTo_7 (by decide) (fun c_2 => ?_) (fun c_2 => ?_)
    · refine lv_iconst (v := 0) hx hb dX3_isFromTo_14 (by decide) ?_
      exact W.zret (v := 0) hx hb hr rfl (fun t ht hW => ⟨⟨0, st, rfl, ⟨(by simp only [fX3_isFromTo, if_neg c_1, if_pos c_2]), rfl⟩, ow_Bi ht hP⟩, hS.F ht⟩) hS.2.2 dX3_isFromTo_15
    · refine lv_iconst (v := 1) hx hb dX3_isFromTo_10 (by decide) ?_
      refine lv_goto (tgt := 15) hx hb dX3_isFromTo_11 (by decide) ?_
      exact W.zret (v := 1) hx hb hr rfl (fun t ht hW => ⟨⟨1, st, rfl, ⟨(by simp only [fX3_isFromTo, if_neg c_1, if_neg c_2]), rfl⟩, ow_Bi ht hP⟩, hS.F ht⟩) hS.2.2 dX3_isFromTo_15

theorem lk_X3_arcRuleAnswer_0 : (.fieldLink RX3 216 "RecordLabels" "WITHIN_ITEMS" "[J" : Cond) ∈ wsX3_arcRuleAnswer := by decide +kernel
def fX3_arcRuleAnswer (st : ow_St) (x0 : Int32) (x1 : Int64) : Int32 := (if x0 = 3 then (if (lg_cmp x1 0) = 0 then (-5) else 1) else (if x0 = 4 then (if (lg_cmp x1 0) = 0 then (-5) else 1) else (if x0 = 5 then (if (lg_cmp x1 0) < 0 then (-6) else (if (lg_cmp x1 ((3 : Int32).toInt64)) < 0 then 1 else (-6))) else (if x0 = 6 then (if 0 ≤ (lg_cmp x1 0) then 1 else (-7)) else 1))))
set_option maxHeartbeats 4000000 in
set_option maxRecDepth 100000 in
theorem kX3_arcRuleAnswer (l : Launch) (D : va_G) (ca : Nat → ClassId) (ad : ow_Ad) (A : Nat → Prop) (st : ow_St) (x0 : Int32) (x1 : Int64) : Met l yX3_arcRuleAnswer wsX3_arcRuleAnswer ({ frames := 0, cells := 0, slots := 0, locals := 0 }) (va_Pc [.int x0, .long x1] (ow_W D ca ad A st)) (va_Qi (fun r st' => r = (fX3_arcRuleAnswer st x0 x1) ∧ st' = st) (ow_B D ca ad) A) 0 0 A := by
  refine Met.ofW (cc := cX3_arcRuleAnswer) (maxL := 3) (ret := (some .int)) (by decide) rfl ?_
  intro p e s m args below meth c s₁ B hml hv
  obtain ⟨rfl, hP, hC⟩ := hv
  have hx := B.exec
  have hb := B.bytes
  have hr := B.returns
  have hts := atoms_spec (ws := wsX3_arcRuleAnswer) B.pre
  have hown : s.vm.findClass RX3 = some m.cls := findClass_of_methodNamed B.named
  have hlocks := B.notSynchronized
  have hS : va_S A s.heap s.heap [] := va_S.rf
  have hl := lv_entry ([.int x0, .long x1]) (n := 3) (Nat.le_of_ble_eq_true rfl)
  rw [lg_entry_eq]
  generalize (lg_sl ([.int x0, .long x1]) ++ List.replicate (3 - (lg_sl ([.int x0, .long x1])).length) Slot.unset).toArray = ls at hl ⊢
  have hl : lv_has ls 3 [(0, .int x0), (1, .long x1)] := hl
  refine lv_iload_n hx hb dX3_arcRuleAnswer_0 rfl (lv_at hl 0 rfl) ?_
  by_cases c_1 : x0 = 3
  · refine lv_tableIn (tgt := 32) (off := 31) hx hb dX3_arcRuleAnswer_1 (by rw [c_1]; decide) (by rw [c_1]; decide) (by rw [c_1]; rfl) (by decide) ?_
    refine lv_lload_n hx hb dX3_arcRuleAnswer_32 rfl (lv_at hl 1 rfl) ?_
    refine lv_lconst (v := 0) hx hb dX3_arcRuleAnswer_33 rfl ?_
    refine W.lcmp hx hb dX3_arcRuleAnswer_34 ?_
    refine lv_if_ne (tgt := 43) hx hb dX3_arcRuleAnswer_35 (by decide) (fun c_2 => ?_) (fun c_2 => ?_)
    · refine lv_iconst (v := 1) hx hb dX3_arcRuleAnswer_43 (by decide) ?_
      exact W.iret (v := 1) hx hb hr (fun t ht hW => ⟨⟨1, st, rfl, ⟨(by simp only [fX3_arcRuleAnswer, if_pos c_1, if_neg c_2]), rfl⟩, ow_Bi ht hP⟩, hS.F ht⟩) hS.2.2 dX3_arcRuleAnswer_44
    · refine lv_bipush (v := (-5)) hx hb dX3_arcRuleAnswer_38 (by decide) ?_
      refine lv_goto (tgt := 44) hx hb dX3_arcRuleAnswer_40 (by decide) ?_
      exact W.iret (v := (-5)) hx hb hr (fun t ht hW => ⟨⟨(-5), st, rfl, ⟨(by simp only [fX3_arcRuleAnswer, if_pos c_1, if_pos c_2]), rfl⟩, ow_Bi ht hP⟩, hS.F ht⟩) hS.2.2 dX3_arcRuleAnswer_44
  · by_cases c_3 : x0 = 4
    · refine lv_tableIn (tgt := 32) (off := 31) hx hb dX3_arcRuleAnswer_1 (by rw [c_3]; decide) (by rw [c_3]; decide) (by rw [c_3]; rfl) (by decide) ?_
      refine lv_lload_n hx hb dX3_arcRuleAnswer_32 rfl (lv_at hl 1 rfl) ?_
      refine lv_lconst (v := 0) hx hb dX3_arcRuleAnswer_33 rfl ?_
      refine W.lcmp hx hb dX3_arcRuleAnswer_34 ?_
      refine lv_if_ne (tgt := 43) hx hb dX3_arcRuleAnswer_35 (by decide) (fun c_4 => ?_) (fun c_4 => ?_)
      · refine lv_iconst (v := 1) hx hb dX3_arcRuleAnswer_43 (by decide) ?_
        exact W.iret (v := 1) hx hb hr (fun t ht hW => ⟨⟨1, st, rfl, ⟨(by simp only [fX3_arcRuleAnswer, if_neg c_1, if_pos c_3, if_neg c_4]), rfl⟩, ow_Bi ht hP⟩, hS.F ht⟩) hS.2.2 dX3_arcRuleAnswer_44
      · refine lv_bipush (v := (-5)) hx hb dX3_arcRuleAnswer_38 (by decide) ?_
        refine lv_goto (tgt := 44) hx hb dX3_arcRuleAnswer_40 (by decide) ?_
        exact W.iret (v := (-5)) hx hb hr (fun t ht hW => ⟨⟨(-5), st, rfl, ⟨(by simp only [fX3_arcRuleAnswer, if_neg c_1, if_pos c_3, if_pos c_4]), rfl⟩, ow_Bi ht hP⟩, hS.F ht⟩) hS.2.2 dX3_arcRuleAnswer_44
    · by_cases c_5 : x0 = 5
      · refine lv_tableIn (tgt := 45) (off := 44) hx hb dX3_arcRuleAnswer_1 (by rw [c_5]; decide) (by rw [c_5]; decide) (by rw [c_5]; rfl) (by decide) ?_
        refine lv_lload_n hx hb dX3_arcRuleAnswer_45 rfl (lv_at hl 1 rfl) ?_
        refine lv_lconst (v := 0) hx hb dX3_arcRuleAnswer_46 rfl ?_
        refine W.lcmp hx hb dX3_arcRuleAnswer_47 ?_
        refine lv_if_lt (tgt := 61) hx hb dX3_arcRuleAnswer_48 (by decide) (fun c_6 => ?_) (fun c_6 => ?_)
        · refine lv_bipush (v := (-6)) hx hb dX3_arcRuleAnswer_61 (by decide) ?_
          refine lv_goto (tgt := 67) hx hb dX3_arcRuleAnswer_63 (by decide) ?_
          exact W.iret (v := (-6)) hx hb hr (fun t ht hW => ⟨⟨(-6), st, rfl, ⟨(by simp only [fX3_arcRuleAnswer, if_neg c_1, if_neg c_3, if_pos c_5, if_pos c_6]), rfl⟩, ow_Bi ht hP⟩, hS.F ht⟩) hS.2.2 dX3_arcRuleAnswer_67
        · refine lv_lload_n hx hb dX3_arcRuleAnswer_51 rfl (lv_at hl 1 rfl) ?_
          refine va_gets hx hb hC.2.2.2.2.2.1 hS hown (hts _ lk_X3_arcRuleAnswer_0) (fun _ h => h) dX3_arcRuleAnswer_52 ?_
          refine va_tlen (v := 3) hx hb hC.2.2.2.2.2.2 hS rfl dX3_arcRuleAnswer_55 ?_
          refine lv_i2l (v := (3 : Int32).toInt64) hx hb dX3_arcRuleAnswer_56 rfl ?_
          refine W.lcmp hx hb dX3_arcRuleAnswer_57 ?_
          refine lv_if_lt (tgt := 66) hx hb dX3_arcRuleAnswer_58 (by decide) (fun c_7 => ?_) (fun c_7 => ?_)
          · refine lv_iconst (v := 1) hx hb dX3_arcRuleAnswer_66 (by decide) ?_
            exact W.iret (v := 1) hx hb hr (fun t ht hW => ⟨⟨1, st, rfl, ⟨(by simp only [fX3_arcRuleAnswer, if_neg c_1, if_neg c_3, if_pos c_5, if_neg c_6, if_pos c_7]), rfl⟩, ow_Bi ht hP⟩, hS.F ht⟩) hS.2.2 dX3_arcRuleAnswer_67
          · refine lv_bipush (v := (-6)) hx hb dX3_arcRuleAnswer_61 (by decide) ?_
            refine lv_goto (tgt := 67) hx hb dX3_arcRuleAnswer_63 (by decide) ?_
            exact W.iret (v := (-6)) hx hb hr (fun t ht hW => ⟨⟨(-6), st, rfl, ⟨(by simp only [fX3_arcRuleAnswer, if_neg c_1, if_neg c_3, if_pos c_5, if_neg c_6, if_neg c_7]), rfl⟩, ow_Bi ht hP⟩, hS.F ht⟩) hS.2.2 dX3_arcRuleAnswer_67
      · by_cases c_8 : x0 = 6
        · refine lv_tableIn (tgt := 68) (off := 67) hx hb dX3_arcRuleAnswer_1 (by rw [c_8]; decide) (by rw [c_8]; decide) (by rw [c_8]; rfl) (by decide) ?_
          refine lv_lload_n hx hb dX3_arcRuleAnswer_68 rfl (lv_at hl 1 rfl) ?_
          refine lv_lconst (v := 0) hx hb dX3_arcRuleAnswer_69 rfl ?_
          refine W.lcmp hx hb dX3_arcRuleAnswer_70 ?_
          refine lv_if_ge (tgt := 79) hx hb dX3_arcRuleAnswer_71 (by decide) (fun c_9 => ?_) (fun c_9 => ?_)
          · refine lv_iconst (v := 1) hx hb dX3_arcRuleAnswer_79 (by decide) ?_
            exact W.iret (v := 1) hx hb hr (fun t ht hW => ⟨⟨1, st, rfl, ⟨(by simp only [fX3_arcRuleAnswer, if_neg c_1, if_neg c_3, if_neg c_5, if_pos c_8, if_pos c_9]), rfl⟩, ow_Bi ht hP⟩, hS.F ht⟩) hS.2.2 dX3_arcRuleAnswer_80
          · refine lv_bipush (v := (-7)) hx hb dX3_arcRuleAnswer_74 (by decide) ?_
            refine lv_goto (tgt := 80) hx hb dX3_arcRuleAnswer_76 (by decide) ?_
            exact W.iret (v := (-7)) hx hb hr (fun t ht hW => ⟨⟨(-7), st, rfl, ⟨(by simp only [fX3_arcRuleAnswer, if_neg c_1, if_neg c_3, if_neg c_5, if_pos c_8, if_neg c_9]), rfl⟩, ow_Bi ht hP⟩, hS.F ht⟩) hS.2.2 dX3_arcRuleAnswer_80
        · refine lv_tableOut (tgt := 81) hx hb dX3_arcRuleAnswer_1 (by have h0 := ow_ne (n := 3) 3 rfl c_1; have h1 := ow_ne (n := 4) 4 rfl c_3; have h2 := ow_ne (n := 5) 5 rfl c_5; have h3 := ow_ne (n := 6) 6 rfl c_8; omega) (by decide) ?_
          refine lv_iconst (v := 1) hx hb dX3_arcRuleAnswer_81 (by decide) ?_
          exact W.iret (v := 1) hx hb hr (fun t ht hW => ⟨⟨1, st, rfl, ⟨(by simp only [fX3_arcRuleAnswer, if_neg c_1, if_neg c_3, if_neg c_5, if_neg c_8]), rfl⟩, ow_Bi ht hP⟩, hS.F ht⟩) hS.2.2 dX3_arcRuleAnswer_82

theorem lk_X3_nodeValue_0 : (.constantLong RX3 226 (2) : Cond) ∈ wsX3_nodeValue := by decide +kernel
theorem lk_X3_nodeValue_1 : (.constantLong RX3 228 (10) : Cond) ∈ wsX3_nodeValue := by decide +kernel
def fX3_nodeValue (st : ow_St) (x0 : Int32) (x1 : Int64) : Int64 := (if x0 = 0 then x1 else (if x0 = 1 then (2 * x1) else (if x0 = 2 then (x1 + 10) else (if x0 = 3 then (-x1) else (if x0 = 4 then (x1 * x1) else 0)))))
set_option maxHeartbeats 4000000 in
set_option maxRecDepth 100000 in
theorem kX3_nodeValue (l : Launch) (D : va_G) (ca : Nat → ClassId) (ad : ow_Ad) (A : Nat → Prop) (st : ow_St) (x0 : Int32) (x1 : Int64) : Met l yX3_nodeValue wsX3_nodeValue ({ frames := 0, cells := 0, slots := 0, locals := 0 }) (va_Pc [.int x0, .long x1] (ow_W D ca ad A st)) (va_Ql (fun r st' => r = (fX3_nodeValue st x0 x1) ∧ st' = st) (ow_B D ca ad) A) 0 0 A := by
  refine Met.ofW (cc := cX3_nodeValue) (maxL := 3) (ret := (some .long)) (by decide) rfl ?_
  intro p e s m args below meth c s₁ B hml hv
  obtain ⟨rfl, hP, hC⟩ := hv
  have hx := B.exec
  have hb := B.bytes
  have hr := B.returns
  have hts := atoms_spec (ws := wsX3_nodeValue) B.pre
  have hown : s.vm.findClass RX3 = some m.cls := findClass_of_methodNamed B.named
  have hlocks := B.notSynchronized
  have hS : va_S A s.heap s.heap [] := va_S.rf
  have hl := lv_entry ([.int x0, .long x1]) (n := 3) (Nat.le_of_ble_eq_true rfl)
  rw [lg_entry_eq]
  generalize (lg_sl ([.int x0, .long x1]) ++ List.replicate (3 - (lg_sl ([.int x0, .long x1])).length) Slot.unset).toArray = ls at hl ⊢
  have hl : lv_has ls 3 [(0, .int x0), (1, .long x1)] := hl
  refine lv_iload_n hx hb dX3_nodeValue_0 rfl (lv_at hl 0 rfl) ?_
  by_cases c_1 : x0 = 0
  · refine lv_tableIn (tgt := 36) (off := 35) hx hb dX3_nodeValue_1 (by rw [c_1]; decide) (by rw [c_1]; decide) (by rw [c_1]; rfl) (by decide) ?_
    refine lv_lload_n hx hb dX3_nodeValue_36 rfl (lv_at hl 1 rfl) ?_
    exact W.lret (v := x1) hx hb hr (fun t ht hW => ⟨⟨x1, st, rfl, ⟨(by simp only [fX3_nodeValue, if_pos c_1]), rfl⟩, ow_Bi ht hP⟩, hS.F ht⟩) hS.2.2 dX3_nodeValue_37
  · by_cases c_2 : x0 = 1
    · refine lv_tableIn (tgt := 38) (off := 37) hx hb dX3_nodeValue_1 (by rw [c_2]; decide) (by rw [c_2]; decide) (by rw [c_2]; rfl) (by decide) ?_
      refine lv_ldc2 (v := 2) hx hb hown (hts _ lk_X3_nodeValue_0) dX3_nodeValue_38 ?_
      refine lv_lload_n hx hb dX3_nodeValue_41 rfl (lv_at hl 1 rfl) ?_
      refine lv_lmul hx hb dX3_nodeValue_42 ?_
      exact W.lret (v := (2 * x1)) hx hb hr (fun t ht hW => ⟨⟨(2 * x1), st, rfl, ⟨(by simp only [fX3_nodeValue, if_neg c_1, if_pos c_2]), rfl⟩, ow_Bi ht hP⟩, hS.F ht⟩) hS.2.2 dX3_nodeValue_43
    · by_cases c_3 : x0 = 2
      · refine lv_tableIn (tgt := 44) (off := 43) hx hb dX3_nodeValue_1 (by rw [c_3]; decide) (by rw [c_3]; decide) (by rw [c_3]; rfl) (by decide) ?_
        refine lv_lload_n hx hb dX3_nodeValue_44 rfl (lv_at hl 1 rfl) ?_
        refine lv_ldc2 (v := 10) hx hb hown (hts _ lk_X3_nodeValue_1) dX3_nodeValue_45 ?_
        refine lv_ladd hx hb dX3_nodeValue_48 ?_
        exact W.lret (v := (x1 + 10)) hx hb hr (fun t ht hW => ⟨⟨(x1 + 10), st, rfl, ⟨(by simp only [fX3_nodeValue, if_neg c_1, if_neg c_2, if_pos c_3]), rfl⟩, ow_Bi ht hP⟩, hS.F ht⟩) hS.2.2 dX3_nodeValue_49
      · by_cases c_4 : x0 = 3
        · refine lv_tableIn (tgt := 50) (off := 49) hx hb dX3_nodeValue_1 (by rw [c_4]; decide) (by rw [c_4]; decide) (by rw [c_4]; rfl) (by decide) ?_
          refine lv_lload_n hx hb dX3_nodeValue_50 rfl (lv_at hl 1 rfl) ?_
          refine lv_lneg hx hb dX3_nodeValue_51 ?_
          exact W.lret (v := (-x1)) hx hb hr (fun t ht hW => ⟨⟨(-x1), st, rfl, ⟨(by simp only [fX3_nodeValue, if_neg c_1, if_neg c_2, if_neg c_3, if_pos c_4]), rfl⟩, ow_Bi ht hP⟩, hS.F ht⟩) hS.2.2 dX3_nodeValue_52
        · by_cases c_5 : x0 = 4
          · refine lv_tableIn (tgt := 53) (off := 52) hx hb dX3_nodeValue_1 (by rw [c_5]; decide) (by rw [c_5]; decide) (by rw [c_5]; rfl) (by decide) ?_
            refine lv_lload_n hx hb dX3_nodeValue_53 rfl (lv_at hl 1 rfl) ?_
            refine lv_lload_n hx hb dX3_nodeValue_54 rfl (lv_at hl 1 rfl) ?_
            refine lv_lmul hx hb dX3_nodeValue_55 ?_
            exact W.lret (v := (x1 * x1)) hx hb hr (fun t ht hW => ⟨⟨(x1 * x1), st, rfl, ⟨(by simp only [fX3_nodeValue, if_neg c_1, if_neg c_2, if_neg c_3, if_neg c_4, if_pos c_5]), rfl⟩, ow_Bi ht hP⟩, hS.F ht⟩) hS.2.2 dX3_nodeValue_56
          · refine lv_tableOut (tgt := 57) hx hb dX3_nodeValue_1 (by have h0 := ow_ne (n := 0) 0 rfl c_1; have h1 := ow_ne (n := 1) 1 rfl c_2; have h2 := ow_ne (n := 2) 2 rfl c_3; have h3 := ow_ne (n := 3) 3 rfl c_4; have h4 := ow_ne (n := 4) 4 rfl c_5; omega) (by decide) ?_
            refine lv_lconst (v := 0) hx hb dX3_nodeValue_57 rfl ?_
            exact W.lret (v := 0) hx hb hr (fun t ht hW => ⟨⟨0, st, rfl, ⟨(by simp only [fX3_nodeValue, if_neg c_1, if_neg c_2, if_neg c_3, if_neg c_4, if_neg c_5]), rfl⟩, ow_Bi ht hP⟩, hS.F ht⟩) hS.2.2 dX3_nodeValue_58

theorem lg_ne {x : Int64} (h : ¬ lg_cmp x 0 = 0) : ¬ x = 0 := fun e => h ((lg_cmp_eq x 0).mpr e)
theorem lg_in3 {x : Int64} (h1 : ¬ lg_cmp x 0 < 0) (h2 : lg_cmp x ((3 : Int32).toInt64) < 0) : vp_in x.toInt32 3 := by
  have a1 : ¬ x < 0 := fun q => h1 ((lg_cmp_lt x 0).mpr q)
  have a2 : x < ((3 : Int32).toInt64) := (lg_cmp_lt x _).mp h2
  obtain ⟨j, hj, rfl⟩ := pk_lOf a1
  have a3 : j < 3 := (pk_lLT hj (by decide)).mp (show lN j < lN 3 from a2)
  rw [lN_i]
  exact vp_in_nI a3 (by decide)

theorem lk_X3_arcValue_0 : (.constantLong RX3 226 (2) : Cond) ∈ wsX3_arcValue := by decide +kernel
theorem lk_X3_arcValue_1 : (.constantLong RX3 230 (100) : Cond) ∈ wsX3_arcValue := by decide +kernel
theorem lk_X3_arcValue_2 : (.fieldLink RX3 216 "RecordLabels" "WITHIN_ITEMS" "[J" : Cond) ∈ wsX3_arcValue := by decide +kernel
def fX3_arcValue (st : ow_St) (x0 : Int32) (x1 : Int64) : Int64 := (if x0 = 0 then (x1 + 1) else (if x0 = 1 then (x1 - 1) else (if x0 = 2 then (x1 / 2) else (if x0 = 3 then (if (lg_cmp x1 0) = 0 then 0 else (100 / x1)) else (if x0 = 4 then (if (lg_cmp x1 0) = 0 then 0 else (100 - 100 / x1 * x1)) else (if x0 = 5 then (if (lg_cmp x1 0) < 0 then 0 else (if (lg_cmp x1 ((3 : Int32).toInt64)) < 0 then (ow_wi ((x1.toInt32).toNatClampNeg)) else 0)) else (if x0 = 6 then x1 else 0)))))))
set_option maxHeartbeats 4000000 in
set_option maxRecDepth 100000 in
theorem kX3_arcValue (l : Launch) (D : va_G) (ca : Nat → ClassId) (ad : ow_Ad) (A : Nat → Prop) (st : ow_St) (x0 : Int32) (x1 : Int64) : Met l yX3_arcValue wsX3_arcValue ({ frames := 0, cells := 0, slots := 0, locals := 0 }) (va_Pc [.int x0, .long x1] (ow_W D ca ad A st)) (va_Ql (fun r st' => r = (fX3_arcValue st x0 x1) ∧ st' = st) (ow_B D ca ad) A) 0 0 A := by
  refine Met.ofW (cc := cX3_arcValue) (maxL := 3) (ret := (some .long)) (by decide) rfl ?_
  intro p e s m args below meth c s₁ B hml hv
  obtain ⟨rfl, hP, hC⟩ := hv
  have hx := B.exec
  have hb := B.bytes
  have hr := B.returns
  have hts := atoms_spec (ws := wsX3_arcValue) B.pre
  have hown : s.vm.findClass RX3 = some m.cls := findClass_of_methodNamed B.named
  have hlocks := B.notSynchronized
  have hS : va_S A s.heap s.heap [] := va_S.rf
  have hl := lv_entry ([.int x0, .long x1]) (n := 3) (Nat.le_of_ble_eq_true rfl)
  rw [lg_entry_eq]
  generalize (lg_sl ([.int x0, .long x1]) ++ List.replicate (3 - (lg_sl ([.int x0, .long x1])).length) Slot.unset).toArray = ls at hl ⊢
  have hl : lv_has ls 3 [(0, .int x0), (1, .long x1)] := hl
  refine lv_iload_n hx hb dX3_arcValue_0 rfl (lv_at hl 0 rfl) ?_
  by_cases c_1 : x0 = 0
  · refine lv_tableIn (tgt := 44) (off := 43) hx hb dX3_arcValue_1 (by rw [c_1]; decide) (by rw [c_1]; decide) (by rw [c_1]; rfl) (by decide) ?_
    refine lv_lload_n hx hb dX3_arcValue_44 rfl (lv_at hl 1 rfl) ?_
    refine lv_lconst (v := 1) hx hb dX3_arcValue_45 rfl ?_
    refine lv_ladd hx hb dX3_arcValue_46 ?_
    exact W.lret (v := (x1 + 1)) hx hb hr (fun t ht hW => ⟨⟨(x1 + 1), st, rfl, ⟨(by simp only [fX3_arcValue, if_pos c_1]), rfl⟩, ow_Bi ht hP⟩, hS.F ht⟩) hS.2.2 dX3_arcValue_47
  · by_cases c_2 : x0 = 1
    · refine lv_tableIn (tgt := 48) (off := 47) hx hb dX3_arcValue_1 (by rw [c_2]; decide) (by rw [c_2]; decide) (by rw [c_2]; rfl) (by decide) ?_
      refine lv_lload_n hx hb dX3_arcValue_48 rfl (lv_at hl 1 rfl) ?_
      refine lv_lconst (v := 1) hx hb dX3_arcValue_49 rfl ?_
      refine lv_lsub hx hb dX3_arcValue_50 ?_
      exact W.lret (v := (x1 - 1)) hx hb hr (fun t ht hW => ⟨⟨(x1 - 1), st, rfl, ⟨(by simp only [fX3_arcValue, if_neg c_1, if_pos c_2]), rfl⟩, ow_Bi ht hP⟩, hS.F ht⟩) hS.2.2 dX3_arcValue_51
    · by_cases c_3 : x0 = 2
      · refine lv_tableIn (tgt := 52) (off := 51) hx hb dX3_arcValue_1 (by rw [c_3]; decide) (by rw [c_3]; decide) (by rw [c_3]; rfl) (by decide) ?_
        refine lv_lload_n hx hb dX3_arcValue_52 rfl (lv_at hl 1 rfl) ?_
        refine lv_ldc2 (v := 2) hx hb hown (hts _ lk_X3_arcValue_0) dX3_arcValue_53 ?_
        refine lv_ldiv hx hb dX3_arcValue_56 (by decide) ?_
        exact W.lret (v := (x1 / 2)) hx hb hr (fun t ht hW => ⟨⟨(x1 / 2), st, rfl, ⟨(by simp only [fX3_arcValue, if_neg c_1, if_neg c_2, if_pos c_3]), rfl⟩, ow_Bi ht hP⟩, hS.F ht⟩) hS.2.2 dX3_arcValue_57
      · by_cases c_4 : x0 = 3
        · refine lv_tableIn (tgt := 58) (off := 57) hx hb dX3_arcValue_1 (by rw [c_4]; decide) (by rw [c_4]; decide) (by rw [c_4]; rfl) (by decide) ?_
          refine lv_lload_n hx hb dX3_arcValue_58 rfl (lv_at hl 1 rfl) ?_
          refine lv_lconst (v := 0) hx hb dX3_arcValue_59 rfl ?_
          refine W.lcmp hx hb dX3_arcValue_60 ?_
          refine lv_if_ne (tgt := 68) hx hb dX3_arcValue_61 (by decide) (fun c_5 => ?_) (fun c_5 => ?_)
          · refine lv_ldc2 (v := 100) hx hb hown (hts _ lk_X3_arcValue_1) dX3_arcValue_68 ?_
            refine lv_lload_n hx hb dX3_arcValue_71 rfl (lv_at hl 1 rfl) ?_
            refine lv_ldiv hx hb dX3_arcValue_72 (lg_ne c_5) ?_
            exact W.lret (v := (100 / x1)) hx hb hr (fun t ht hW => ⟨⟨(100 / x1), st, rfl, ⟨(by simp only [fX3_arcValue, if_neg c_1, if_neg c_2, if_neg c_3, if_pos c_4, if_neg c_5]), rfl⟩, ow_Bi ht hP⟩, hS.F ht⟩) hS.2.2 dX3_arcValue_73
          · refine lv_lconst (v := 0) hx hb dX3_arcValue_64 rfl ?_
            refine lv_goto (tgt := 73) hx hb dX3_arcValue_65 (by decide) ?_
            exact W.lret (v := 0) hx hb hr (fun t ht hW => ⟨⟨0, st, rfl, ⟨(by simp only [fX3_arcValue, if_neg c_1, if_neg c_2, if_neg c_3, if_pos c_4, if_pos c_5]), rfl⟩, ow_Bi ht hP⟩, hS.F ht⟩) hS.2.2 dX3_arcValue_73
        · by_cases c_6 : x0 = 4
          · refine lv_tableIn (tgt := 74) (off := 73) hx hb dX3_arcValue_1 (by rw [c_6]; decide) (by rw [c_6]; decide) (by rw [c_6]; rfl) (by decide) ?_
            refine lv_lload_n hx hb dX3_arcValue_74 rfl (lv_at hl 1 rfl) ?_
            refine lv_lconst (v := 0) hx hb dX3_arcValue_75 rfl ?_
            refine W.lcmp hx hb dX3_arcValue_76 ?_
            refine lv_if_ne (tgt := 84) hx hb dX3_arcValue_77 (by decide) (fun c_7 => ?_) (fun c_7 => ?_)
            · refine lv_ldc2 (v := 100) hx hb hown (hts _ lk_X3_arcValue_1) dX3_arcValue_84 ?_
              refine lv_lload_n hx hb dX3_arcValue_87 rfl (lv_at hl 1 rfl) ?_
              refine lv_lrem hx hb dX3_arcValue_88 (lg_ne c_7) ?_
              exact W.lret (v := (100 - 100 / x1 * x1)) hx hb hr (fun t ht hW => ⟨⟨(100 - 100 / x1 * x1), st, rfl, ⟨(by simp only [fX3_arcValue, if_neg c_1, if_neg c_2, if_neg c_3, if_neg c_4, if_pos c_6, if_neg c_7]), rfl⟩, ow_Bi ht hP⟩, hS.F ht⟩) hS.2.2 dX3_arcValue_89
            · refine lv_lconst (v := 0) hx hb dX3_arcValue_80 rfl ?_
              refine lv_goto (tgt := 89) hx hb dX3_arcValue_81 (by decide) ?_
              exact W.lret (v := 0) hx hb hr (fun t ht hW => ⟨⟨0, st, rfl, ⟨(by simp only [fX3_arcValue, if_neg c_1, if_neg c_2, if_neg c_3, if_neg c_4, if_pos c_6, if_pos c_7]), rfl⟩, ow_Bi ht hP⟩, hS.F ht⟩) hS.2.2 dX3_arcValue_89
          · by_cases c_8 : x0 = 5
            · refine lv_tableIn (tgt := 90) (off := 89) hx hb dX3_arcValue_1 (by rw [c_8]; decide) (by rw [c_8]; decide) (by rw [c_8]; rfl) (by decide) ?_
              refine lv_lload_n hx hb dX3_arcValue_90 rfl (lv_at hl 1 rfl) ?_
              refine lv_lconst (v := 0) hx hb dX3_arcValue_91 rfl ?_
              refine W.lcmp hx hb dX3_arcValue_92 ?_
              refine lv_if_lt (tgt := 106) hx hb dX3_arcValue_93 (by decide) (fun c_9 => ?_) (fun c_9 => ?_)
              · refine lv_lconst (v := 0) hx hb dX3_arcValue_106 rfl ?_
                refine lv_goto (tgt := 116) hx hb dX3_arcValue_107 (by decide) ?_
                exact W.lret (v := 0) hx hb hr (fun t ht hW => ⟨⟨0, st, rfl, ⟨(by simp only [fX3_arcValue, if_neg c_1, if_neg c_2, if_neg c_3, if_neg c_4, if_neg c_6, if_pos c_8, if_pos c_9]), rfl⟩, ow_Bi ht hP⟩, hS.F ht⟩) hS.2.2 dX3_arcValue_116
              · refine lv_lload_n hx hb dX3_arcValue_96 rfl (lv_at hl 1 rfl) ?_
                refine va_gets hx hb hC.2.2.2.2.2.1 hS hown (hts _ lk_X3_arcValue_2) (fun _ h => h) dX3_arcValue_97 ?_
                refine va_tlen (v := 3) hx hb hC.2.2.2.2.2.2 hS rfl dX3_arcValue_100 ?_
                refine lv_i2l (v := (3 : Int32).toInt64) hx hb dX3_arcValue_101 rfl ?_
                refine W.lcmp hx hb dX3_arcValue_102 ?_
                refine lv_if_lt (tgt := 110) hx hb dX3_arcValue_103 (by decide) (fun c_10 => ?_) (fun c_10 => ?_)
                · refine va_gets hx hb hC.2.2.2.2.2.1 hS hown (hts _ lk_X3_arcValue_2) (fun _ h => h) dX3_arcValue_110 ?_
                  refine lv_lload_n hx hb dX3_arcValue_113 rfl (lv_at hl 1 rfl) ?_
                  refine lv_l2i (v := x1.toInt32) hx hb dX3_arcValue_114 rfl ?_
                  refine va_tl (v := .long (ow_wi ((x1.toInt32).toNatClampNeg))) hx hb hC.2.2.2.2.2.2 hS (lg_in3 c_9 c_10) rfl dX3_arcValue_115 ?_
                  exact W.lret (v := (ow_wi ((x1.toInt32).toNatClampNeg))) hx hb hr (fun t ht hW => ⟨⟨(ow_wi ((x1.toInt32).toNatClampNeg)), st, rfl, ⟨(by simp only [fX3_arcValue, if_neg c_1, if_neg c_2, if_neg c_3, if_neg c_4, if_neg c_6, if_pos c_8, if_neg c_9, if_pos c_10]), rfl⟩, ow_Bi ht hP⟩, hS.F ht⟩) hS.2.2 dX3_arcValue_116
                · refine lv_lconst (v := 0) hx hb dX3_arcValue_106 rfl ?_
                  refine lv_goto (tgt := 116) hx hb dX3_arcValue_107 (by decide) ?_
                  exact W.lret (v := 0) hx hb hr (fun t ht hW => ⟨⟨0, st, rfl, ⟨(by simp only [fX3_arcValue, if_neg c_1, if_neg c_2, if_neg c_3, if_neg c_4, if_neg c_6, if_pos c_8, if_neg c_9, if_neg c_10]), rfl⟩, ow_Bi ht hP⟩, hS.F ht⟩) hS.2.2 dX3_arcValue_116
            · by_cases c_11 : x0 = 6
              · refine lv_tableIn (tgt := 117) (off := 116) hx hb dX3_arcValue_1 (by rw [c_11]; decide) (by rw [c_11]; decide) (by rw [c_11]; rfl) (by decide) ?_
                refine lv_lload_n hx hb dX3_arcValue_117 rfl (lv_at hl 1 rfl) ?_
                exact W.lret (v := x1) hx hb hr (fun t ht hW => ⟨⟨x1, st, rfl, ⟨(by simp only [fX3_arcValue, if_neg c_1, if_neg c_2, if_neg c_3, if_neg c_4, if_neg c_6, if_neg c_8, if_pos c_11]), rfl⟩, ow_Bi ht hP⟩, hS.F ht⟩) hS.2.2 dX3_arcValue_118
              · refine lv_tableOut (tgt := 119) hx hb dX3_arcValue_1 (by have h0 := ow_ne (n := 0) 0 rfl c_1; have h1 := ow_ne (n := 1) 1 rfl c_2; have h2 := ow_ne (n := 2) 2 rfl c_3; have h3 := ow_ne (n := 3) 3 rfl c_4; have h4 := ow_ne (n := 4) 4 rfl c_6; have h5 := ow_ne (n := 5) 5 rfl c_8; have h6 := ow_ne (n := 6) 6 rfl c_11; omega) (by decide) ?_
                refine lv_lconst (v := 0) hx hb dX3_arcValue_119 rfl ?_
                exact W.lret (v := 0) hx hb hr (fun t ht hW => ⟨⟨0, st, rfl, ⟨(by simp only [fX3_arcValue, if_neg c_1, if_neg c_2, if_neg c_3, if_neg c_4, if_neg c_6, if_neg c_8, if_neg c_11]), rfl⟩, ow_Bi ht hP⟩, hS.F ht⟩) hS.2.2 dX3_arcValue_120

theorem ln_X3_valueOf_0_0 : (.fieldLinkNest RX3 155 "RecordLabels$Kind" "number" "I" "RecordLabels" : Cond) ∈ ow_nest := by decide +kernel
theorem li_X3_valueOf_0_X0 : ∀ w ∈ u_ws RX0 TX0 7, w ∈ wsX3_valueOf := by decide +kernel
def fX3_valueOf_0 (st : ow_St) (x1 : Int32) (x2 : Int64) : Int64 := (fX3_nodeValue st x1 x2)
set_option maxHeartbeats 4000000 in
set_option maxRecDepth 100000 in
theorem kX3_valueOf_0 (l : Launch) (D : va_G) (ca : Nat → ClassId) (ad : ow_Ad) (A : Nat → Prop) (st : ow_St) (x1 : Int32) (x2 : Int64) : Met l yX3_valueOf wsX3_valueOf ({ frames := 1, cells := 0, slots := 0, locals := 22 }) (va_Pc [.ref (ad 1 0), .int x1, .long x2] (ow_W D ca ad A st)) (va_Ql (fun r st' => r = (fX3_valueOf_0 st x1 x2) ∧ st' = st) (ow_B D ca ad) A) 0 0 A := by
  refine Met.ofW (cc := cX3_valueOf) (maxL := 4) (ret := (some .long)) (by decide) rfl ?_
  intro p e s m args below meth c s₁ B hml hv
  obtain ⟨rfl, hP, hC⟩ := hv
  have hx := B.exec
  have hb := B.bytes
  have hr := B.returns
  have hts := atoms_spec (ws := wsX3_valueOf) B.pre
  have hown : s.vm.findClass RX3 = some m.cls := findClass_of_methodNamed B.named
  have hlocks := B.notSynchronized
  have hS : va_S A s.heap s.heap [] := va_S.rf
  have hl := lv_entry ([.ref (ad 1 0), .int x1, .long x2]) (n := 4) (Nat.le_of_ble_eq_true rfl)
  rw [lg_entry_eq]
  generalize (lg_sl ([.ref (ad 1 0), .int x1, .long x2]) ++ List.replicate (4 - (lg_sl ([.ref (ad 1 0), .int x1, .long x2])).length) Slot.unset).toArray = ls at hl ⊢
  have hl : lv_has ls 4 [(0, .ref (ad 1 0)), (1, .int x1), (2, .long x2)] := hl
  refine lv_aload_n hx hb dX3_valueOf_0 rfl (lv_at hl 0 rfl) ?_
  refine og_getN (C := RX0) (T := TX0) (N := 7) (g := 1) (i := 0) (v := .int 0) hx hb hts li_X3_valueOf_0_X0 hown hC hP (ow_q1_0) rfl rfl 0 (by decide) ln_X3_valueOf_0_0 rfl rfl dX3_valueOf_1 ?_
  refine lv_lookup (tgt := 32) (off := 28) hx hb dX3_valueOf_4 (by decide) (by decide) (by decide) ?_
  refine lv_iload_n hx hb dX3_valueOf_32 rfl (lv_at hl 1 rfl) ?_
  refine lv_lload_n hx hb dX3_valueOf_33 rfl (lv_at hl 2 rfl) ?_
  refine og_clP (og_runS (As := [.int x1, .long x2]) (rest := []) ⟨hx, hb, hml, hown, hts⟩ (kX3_nodeValue l D ca ad A st x1 x2) (va_cwS 2 hts gX3_valueOf_X3_nodeValue rfl rfl rfl (by decide +kernel) ⟨Nat.le_of_ble_eq_true rfl, Nat.le_of_ble_eq_true rfl⟩) hC hP hS rfl hl.1 rfl (Nat.le_of_ble_eq_true rfl) dX3_valueOf_34 ⟨Nat.zero_le _, Nat.zero_le _⟩) hS (fun H locs hP hS => ?_)
  exact W.lret (v := (fX3_nodeValue st x1 x2)) hx hb hr (fun t ht hW => ⟨⟨(fX3_nodeValue st x1 x2), st, rfl, ⟨(by simp only [fX3_valueOf_0]), rfl⟩, ow_Bi ht hP⟩, hS.F ht⟩) hS.2.2 dX3_valueOf_37

theorem ln_X3_valueOf_1_0 : (.fieldLinkNest RX3 155 "RecordLabels$Kind" "number" "I" "RecordLabels" : Cond) ∈ ow_nest := by decide +kernel
theorem li_X3_valueOf_1_X0 : ∀ w ∈ u_ws RX0 TX0 7, w ∈ wsX3_valueOf := by decide +kernel
def fX3_valueOf_1 (st : ow_St) (x1 : Int32) (x2 : Int64) : Int64 := (fX3_arcValue st x1 x2)
set_option maxHeartbeats 4000000 in
set_option maxRecDepth 100000 in
theorem kX3_valueOf_1 (l : Launch) (D : va_G) (ca : Nat → ClassId) (ad : ow_Ad) (A : Nat → Prop) (st : ow_St) (x1 : Int32) (x2 : Int64) : Met l yX3_valueOf wsX3_valueOf ({ frames := 1, cells := 0, slots := 0, locals := 22 }) (va_Pc [.ref (ad 1 1), .int x1, .long x2] (ow_W D ca ad A st)) (va_Ql (fun r st' => r = (fX3_valueOf_1 st x1 x2) ∧ st' = st) (ow_B D ca ad) A) 0 0 A := by
  refine Met.ofW (cc := cX3_valueOf) (maxL := 4) (ret := (some .long)) (by decide) rfl ?_
  intro p e s m args below meth c s₁ B hml hv
  obtain ⟨rfl, hP, hC⟩ := hv
  have hx := B.exec
  have hb := B.bytes
  have hr := B.returns
  have hts := atoms_spec (ws := wsX3_valueOf) B.pre
  have hown : s.vm.findClass RX3 = some m.cls := findClass_of_methodNamed B.named
  have hlocks := B.notSynchronized
  have hS : va_S A s.heap s.heap [] := va_S.rf
  have hl := lv_entry ([.ref (ad 1 1), .int x1, .long x2]) (n := 4) (Nat.le_of_ble_eq_true rfl)
  rw [lg_entry_eq]
  generalize (lg_sl ([.ref (ad 1 1), .int x1, .long x2]) ++ List.replicate (4 - (lg_sl ([.ref (ad 1 1), .int x1, .long x2])).length) Slot.unset).toArray = ls at hl ⊢
  have hl : lv_has ls 4 [(0, .ref (ad 1 1)), (1, .int x1), (2, .long x2)] := hl
  refine lv_aload_n hx hb dX3_valueOf_0 rfl (lv_at hl 0 rfl) ?_
  refine og_getN (C := RX0) (T := TX0) (N := 7) (g := 1) (i := 1) (v := .int 1) hx hb hts li_X3_valueOf_1_X0 hown hC hP (ow_q1_1) rfl rfl 0 (by decide) ln_X3_valueOf_1_0 rfl rfl dX3_valueOf_1 ?_
  refine lv_lookup (tgt := 38) (off := 34) hx hb dX3_valueOf_4 (by decide) (by decide) (by decide) ?_
  refine lv_iload_n hx hb dX3_valueOf_38 rfl (lv_at hl 1 rfl) ?_
  refine lv_lload_n hx hb dX3_valueOf_39 rfl (lv_at hl 2 rfl) ?_
  refine og_clP (og_runS (As := [.int x1, .long x2]) (rest := []) ⟨hx, hb, hml, hown, hts⟩ (kX3_arcValue l D ca ad A st x1 x2) (va_cwS 2 hts gX3_valueOf_X3_arcValue rfl rfl rfl (by decide +kernel) ⟨Nat.le_of_ble_eq_true rfl, Nat.le_of_ble_eq_true rfl⟩) hC hP hS rfl hl.1 rfl (Nat.le_of_ble_eq_true rfl) dX3_valueOf_40 ⟨Nat.zero_le _, Nat.zero_le _⟩) hS (fun H locs hP hS => ?_)
  exact W.lret (v := (fX3_arcValue st x1 x2)) hx hb hr (fun t ht hW => ⟨⟨(fX3_arcValue st x1 x2), st, rfl, ⟨(by simp only [fX3_valueOf_1]), rfl⟩, ow_Bi ht hP⟩, hS.F ht⟩) hS.2.2 dX3_valueOf_43

theorem ln_X3_valueOf_2_0 : (.fieldLinkNest RX3 155 "RecordLabels$Kind" "number" "I" "RecordLabels" : Cond) ∈ ow_nest := by decide +kernel
theorem li_X3_valueOf_2_X0 : ∀ w ∈ u_ws RX0 TX0 7, w ∈ wsX3_valueOf := by decide +kernel
def fX3_valueOf_2 (st : ow_St) (x1 : Int32) (x2 : Int64) : Int64 := (x2 ^^^ (x1.toInt64))
set_option maxHeartbeats 4000000 in
set_option maxRecDepth 100000 in
theorem kX3_valueOf_2 (l : Launch) (D : va_G) (ca : Nat → ClassId) (ad : ow_Ad) (A : Nat → Prop) (st : ow_St) (x1 : Int32) (x2 : Int64) : Met l yX3_valueOf wsX3_valueOf ({ frames := 0, cells := 0, slots := 0, locals := 0 }) (va_Pc [.ref (ad 1 2), .int x1, .long x2] (ow_W D ca ad A st)) (va_Ql (fun r st' => r = (fX3_valueOf_2 st x1 x2) ∧ st' = st) (ow_B D ca ad) A) 0 0 A := by
  refine Met.ofW (cc := cX3_valueOf) (maxL := 4) (ret := (some .long)) (by decide) rfl ?_
  intro p e s m args below meth c s₁ B hml hv
  obtain ⟨rfl, hP, hC⟩ := hv
  have hx := B.exec
  have hb := B.bytes
  have hr := B.returns
  have hts := atoms_spec (ws := wsX3_valueOf) B.pre
  have hown : s.vm.findClass RX3 = some m.cls := findClass_of_methodNamed B.named
  have hlocks := B.notSynchronized
  have hS : va_S A s.heap s.heap [] := va_S.rf
  have hl := lv_entry ([.ref (ad 1 2), .int x1, .long x2]) (n := 4) (Nat.le_of_ble_eq_true rfl)
  rw [lg_entry_eq]
  generalize (lg_sl ([.ref (ad 1 2), .int x1, .long x2]) ++ List.replicate (4 - (lg_sl ([.ref (ad 1 2), .int x1, .long x2])).length) Slot.unset).toArray = ls at hl ⊢
  have hl : lv_has ls 4 [(0, .ref (ad 1 2)), (1, .int x1), (2, .long x2)] := hl
  refine lv_aload_n hx hb dX3_valueOf_0 rfl (lv_at hl 0 rfl) ?_
  refine og_getN (C := RX0) (T := TX0) (N := 7) (g := 1) (i := 2) (v := .int 2) hx hb hts li_X3_valueOf_2_X0 hown hC hP (ow_q1_2) rfl rfl 0 (by decide) ln_X3_valueOf_2_0 rfl rfl dX3_valueOf_1 ?_
  refine lv_lookup (tgt := 44) (off := 40) hx hb dX3_valueOf_4 (by decide) (by decide) (by decide) ?_
  refine lv_lload_n hx hb dX3_valueOf_44 rfl (lv_at hl 2 rfl) ?_
  refine lv_iload_n hx hb dX3_valueOf_45 rfl (lv_at hl 1 rfl) ?_
  refine lv_i2l (v := x1.toInt64) hx hb dX3_valueOf_46 rfl ?_
  refine lv_lxor hx hb dX3_valueOf_47 ?_
  exact W.lret (v := (x2 ^^^ (x1.toInt64))) hx hb hr (fun t ht hW => ⟨⟨(x2 ^^^ (x1.toInt64)), st, rfl, ⟨(by simp only [fX3_valueOf_2]), rfl⟩, ow_Bi ht hP⟩, hS.F ht⟩) hS.2.2 dX3_valueOf_48

theorem ln_X3_askRule_0_0 : (.methodLinkNest RX3 209 yX0_startForRule "RecordLabels" : Cond) ∈ ow_nest := by decide +kernel
theorem lk_X3_askRule_0_1 : (.initialized RX0 : Cond) ∈ wsX3_askRule := by decide +kernel
theorem lk_X3_askRule_0_2 : (.instanceMethod yX0_startForRule : Cond) ∈ wsX3_askRule := by decide +kernel
theorem lk_X3_askRule_0_3 : (.selects RX0 yX0_startForRule yX0_startForRule : Cond) ∈ wsX3_askRule := by decide +kernel
theorem li_X3_askRule_0_X3 : ∀ w ∈ u_ws RX3 TX3 14, w ∈ wsX3_askRule := by decide +kernel
theorem lk_X3_askRule_0_5 : (.fieldLink RX3 25 "RecordLabels" "arcKind" "LRecordLabels$Kind;" : Cond) ∈ wsX3_askRule := by decide +kernel
def fX3_askRule_0 (st : ow_St) (x2 : Int32) (x3 : Int64) : Int32 × ow_St := (let st1 := (fX0_startForRule st 0).2; (if (fX0_startForRule st 0).1 = 1 then (1, st1) else ((fX0_startForRule st 0).1, st1)))
set_option maxHeartbeats 4000000 in
set_option maxRecDepth 100000 in
theorem kX3_askRule_0 (l : Launch) (D : va_G) (ca : Nat → ClassId) (ad : ow_Ad) (A : Nat → Prop) (st : ow_St) (x2 : Int32) (x3 : Int64) : Met l yX3_askRule wsX3_askRule ({ frames := 1, cells := 0, slots := 0, locals := 20 }) (va_Pc [.ref (ad 0 0), .ref (ad 1 0), .int x2, .long x3] (ow_W D ca ad A st)) (va_Qi (fun r st' => (r, st') = (fX3_askRule_0 st x2 x3)) (ow_B D ca ad) A) 0 0 A := by
  refine Met.ofW (cc := cX3_askRule) (maxL := 7) (ret := (some .int)) (by decide) rfl ?_
  intro p e s m args below meth c s₁ B hml hv
  obtain ⟨rfl, hP, hC⟩ := hv
  have hx := B.exec
  have hb := B.bytes
  have hr := B.returns
  have hts := atoms_spec (ws := wsX3_askRule) B.pre
  have hown : s.vm.findClass RX3 = some m.cls := findClass_of_methodNamed B.named
  have hlocks := B.notSynchronized
  have hS : va_S A s.heap s.heap [] := va_S.rf
  have hl := lv_entry ([.ref (ad 0 0), .ref (ad 1 0), .int x2, .long x3]) (n := 7) (Nat.le_of_ble_eq_true rfl)
  rw [lg_entry_eq]
  generalize (lg_sl ([.ref (ad 0 0), .ref (ad 1 0), .int x2, .long x3]) ++ List.replicate (7 - (lg_sl ([.ref (ad 0 0), .ref (ad 1 0), .int x2, .long x3])).length) Slot.unset).toArray = ls at hl ⊢
  have hl : lv_has ls 7 [(0, .ref (ad 0 0)), (1, .ref (ad 1 0)), (2, .int x2), (3, .long x3)] := hl
  refine lv_aload_n hx hb dX3_askRule_0 rfl (lv_at hl 1 rfl) ?_
  refine og_ciW (og_runVN (C := RX0) (T := TX0) (N := 7) (g := 1) (i := 0) (As := []) (rest := []) ⟨hx, hb, hml, hown, hts⟩ (kX0_startForRule l D ca ad A st 0 (by decide)) ⟨va_cnB 0 hts gX3_askRule_X0_startForRule_n209 rfl rfl rfl (hC.2.2.1 _ ln_X3_askRule_0_0) (hts _ lk_X3_askRule_0_1) (by decide +kernel) ⟨Nat.le_of_ble_eq_true rfl, Nat.le_of_ble_eq_true rfl⟩, (hts _ lk_X3_askRule_0_2), (hts _ lk_X3_askRule_0_3)⟩ hC hP hS (ow_q1_0) rfl rfl rfl hl.1 rfl (Nat.le_of_ble_eq_true rfl) dX3_askRule_1 ⟨Nat.zero_le _, Nat.zero_le _⟩) hS (fun H locs hP hS => ?_)
  obtain ⟨st1, e1⟩ : ∃ z, z = (fX0_startForRule st 0).2 := ⟨_, rfl⟩
  rw [← e1] at hP
  refine lv_istore (lv' := [(5, .int ((fX0_startForRule st 0).1)), (0, .ref (ad 0 0)), (1, .ref (ad 1 0)), (2, .int x2), (3, .long x3)]) hx hb dX3_askRule_4 hl (by decide) rfl (fun ls hl => ?_)
  refine lv_iload hx hb dX3_askRule_6 (lv_at hl 0 rfl) ?_
  refine lv_iconst (v := 1) hx hb dX3_askRule_8 (by decide) ?_
  refine lv_icmp_eq (tgt := 15) hx hb dX3_askRule_9 (by decide) (fun c_2 => ?_) (fun c_2 => ?_)
  · refine lv_aload_n hx hb dX3_askRule_15 rfl (lv_at hl 2 rfl) ?_
    refine lv_aload_n hx hb dX3_askRule_16 rfl (lv_at hl 1 rfl) ?_
    refine og_get (C := RX3) (T := TX3) (N := 14) (g := 0) (i := 0) (v := .ref (ad 1 1)) hx hb hts li_X3_askRule_0_X3 hown hC hP (ow_q0_0) rfl rfl 1 (by decide) (hts _ lk_X3_askRule_0_5) rfl rfl dX3_askRule_17 ?_
    refine lv_acmp_ne (rx := some (ad 1 0)) (ry := some (ad 1 1)) (tgt := 31) hx hb dX3_askRule_20 (by decide) (fun _ => ?_) (fun c => absurd c (fun h => absurd (ow_inj hC.2.1 (ow_q1_0) (ow_q1_1) (Option.some.inj h)).2 (by decide)))
    refine lv_iconst (v := 1) hx hb dX3_askRule_31 (by decide) ?_
    refine lv_istore (lv' := [(6, .int 1), (5, .int ((fX0_startForRule st 0).1)), (0, .ref (ad 0 0)), (1, .ref (ad 1 0)), (2, .int x2), (3, .long x3)]) hx hb dX3_askRule_32 hl (by decide) rfl (fun ls hl => ?_)
    refine lv_iload hx hb dX3_askRule_34 (lv_at hl 0 rfl) ?_
    refine lv_iconst (v := 1) hx hb dX3_askRule_36 (by decide) ?_
    refine lv_icmp_eq (tgt := 50) hx hb dX3_askRule_37 (by decide) (fun _ => ?_) (fun c => absurd (by decide) c)
    refine lv_iload hx hb dX3_askRule_50 (lv_at hl 0 rfl) ?_
    exact W.iret (v := 1) hx hb hr (fun t ht hW => ⟨⟨1, st1, rfl, (by subst e1; simp only [fX3_askRule_0, if_pos c_2]), ow_Bi ht hP⟩, hS.F ht⟩) hS.2.2 dX3_askRule_52
  · refine lv_iload hx hb dX3_askRule_12 (lv_at hl 0 rfl) ?_
    exact W.iret (v := (fX0_startForRule st 0).1) hx hb hr (fun t ht hW => ⟨⟨(fX0_startForRule st 0).1, st1, rfl, (by subst e1; simp only [fX3_askRule_0, if_neg c_2]), ow_Bi ht hP⟩, hS.F ht⟩) hS.2.2 dX3_askRule_14

theorem ln_X3_askRule_1_0 : (.methodLinkNest RX3 209 yX0_startForRule "RecordLabels" : Cond) ∈ ow_nest := by decide +kernel
theorem lk_X3_askRule_1_1 : (.initialized RX0 : Cond) ∈ wsX3_askRule := by decide +kernel
theorem lk_X3_askRule_1_2 : (.instanceMethod yX0_startForRule : Cond) ∈ wsX3_askRule := by decide +kernel
theorem lk_X3_askRule_1_3 : (.selects RX0 yX0_startForRule yX0_startForRule : Cond) ∈ wsX3_askRule := by decide +kernel
theorem li_X3_askRule_1_X3 : ∀ w ∈ u_ws RX3 TX3 14, w ∈ wsX3_askRule := by decide +kernel
theorem lk_X3_askRule_1_5 : (.fieldLink RX3 25 "RecordLabels" "arcKind" "LRecordLabels$Kind;" : Cond) ∈ wsX3_askRule := by decide +kernel
theorem lk_X3_askRule_1_6 : (.fieldLink RX3 56 "RecordLabels" "ruleFailures" "I" : Cond) ∈ wsX3_askRule := by decide +kernel
def fX3_askRule_1 (st : ow_St) (x2 : Int32) (x3 : Int64) : Int32 × ow_St := (let st1 := (fX0_startForRule st 1).2; (if (fX0_startForRule st 1).1 = 1 then (if (fX3_arcRuleAnswer st1 x2 x3) = 1 then ((fX3_arcRuleAnswer st1 x2 x3), st1) else (let st4 := (ow_si st1 0 0 ((st1.1 0 0) + 1)); ((fX3_arcRuleAnswer st1 x2 x3), st4))) else ((fX0_startForRule st 1).1, st1)))
set_option maxHeartbeats 4000000 in
set_option maxRecDepth 100000 in
theorem kX3_askRule_1 (l : Launch) (D : va_G) (ca : Nat → ClassId) (ad : ow_Ad) (A : Nat → Prop) (st : ow_St) (x2 : Int32) (x3 : Int64) : Met l yX3_askRule wsX3_askRule ({ frames := 1, cells := 0, slots := 0, locals := 22 }) (va_Pc [.ref (ad 0 0), .ref (ad 1 1), .int x2, .long x3] (ow_W D ca ad A st)) (va_Qi (fun r st' => (r, st') = (fX3_askRule_1 st x2 x3)) (ow_B D ca ad) A) 0 0 A := by
  refine Met.ofW (cc := cX3_askRule) (maxL := 7) (ret := (some .int)) (by decide) rfl ?_
  intro p e s m args below meth c s₁ B hml hv
  obtain ⟨rfl, hP, hC⟩ := hv
  have hx := B.exec
  have hb := B.bytes
  have hr := B.returns
  have hts := atoms_spec (ws := wsX3_askRule) B.pre
  have hown : s.vm.findClass RX3 = some m.cls := findClass_of_methodNamed B.named
  have hlocks := B.notSynchronized
  have hS : va_S A s.heap s.heap [] := va_S.rf
  have hl := lv_entry ([.ref (ad 0 0), .ref (ad 1 1), .int x2, .long x3]) (n := 7) (Nat.le_of_ble_eq_true rfl)
  rw [lg_entry_eq]
  generalize (lg_sl ([.ref (ad 0 0), .ref (ad 1 1), .int x2, .long x3]) ++ List.replicate (7 - (lg_sl ([.ref (ad 0 0), .ref (ad 1 1), .int x2, .long x3])).length) Slot.unset).toArray = ls at hl ⊢
  have hl : lv_has ls 7 [(0, .ref (ad 0 0)), (1, .ref (ad 1 1)), (2, .int x2), (3, .long x3)] := hl
  refine lv_aload_n hx hb dX3_askRule_0 rfl (lv_at hl 1 rfl) ?_
  refine og_ciW (og_runVN (C := RX0) (T := TX0) (N := 7) (g := 1) (i := 1) (As := []) (rest := []) ⟨hx, hb, hml, hown, hts⟩ (kX0_startForRule l D ca ad A st 1 (by decide)) ⟨va_cnB 0 hts gX3_askRule_X0_startForRule_n209 rfl rfl rfl (hC.2.2.1 _ ln_X3_askRule_1_0) (hts _ lk_X3_askRule_1_1) (by decide +kernel) ⟨Nat.le_of_ble_eq_true rfl, Nat.le_of_ble_eq_true rfl⟩, (hts _ lk_X3_askRule_1_2), (hts _ lk_X3_askRule_1_3)⟩ hC hP hS (ow_q1_1) rfl rfl rfl hl.1 rfl (Nat.le_of_ble_eq_true rfl) dX3_askRule_1 ⟨Nat.zero_le _, Nat.zero_le _⟩) hS (fun H locs hP hS => ?_)
  obtain ⟨st1, e1⟩ : ∃ z, z = (fX0_startForRule st 1).2 := ⟨_, rfl⟩
  rw [← e1] at hP
  refine lv_istore (lv' := [(5, .int ((fX0_startForRule st 1).1)), (0, .ref (ad 0 0)), (1, .ref (ad 1 1)), (2, .int x2), (3, .long x3)]) hx hb dX3_askRule_4 hl (by decide) rfl (fun ls hl => ?_)
  refine lv_iload hx hb dX3_askRule_6 (lv_at hl 0 rfl) ?_
  refine lv_iconst (v := 1) hx hb dX3_askRule_8 (by decide) ?_
  refine lv_icmp_eq (tgt := 15) hx hb dX3_askRule_9 (by decide) (fun c_2 => ?_) (fun c_2 => ?_)
  · refine lv_aload_n hx hb dX3_askRule_15 rfl (lv_at hl 2 rfl) ?_
    refine lv_aload_n hx hb dX3_askRule_16 rfl (lv_at hl 1 rfl) ?_
    refine og_get (C := RX3) (T := TX3) (N := 14) (g := 0) (i := 0) (v := .ref (ad 1 1)) hx hb hts li_X3_askRule_1_X3 hown hC hP (ow_q0_0) rfl rfl 1 (by decide) (hts _ lk_X3_askRule_1_5) rfl rfl dX3_askRule_17 ?_
    refine lv_acmp_ne (rx := some (ad 1 1)) (ry := some (ad 1 1)) (tgt := 31) hx hb dX3_askRule_20 (by decide) (fun c => absurd rfl c) (fun _ => ?_)
    refine lv_iload_n hx hb dX3_askRule_23 rfl (lv_at hl 3 rfl) ?_
    refine lv_lload_n hx hb dX3_askRule_24 rfl (lv_at hl 4 rfl) ?_
    refine og_ciP (og_runS (As := [.int x2, .long x3]) (rest := []) ⟨hx, hb, hml, hown, hts⟩ (kX3_arcRuleAnswer l D ca ad A st1 x2 x3) (va_cwS 2 hts gX3_askRule_X3_arcRuleAnswer rfl rfl rfl (by decide +kernel) ⟨Nat.le_of_ble_eq_true rfl, Nat.le_of_ble_eq_true rfl⟩) hC hP hS rfl hl.1 rfl (Nat.le_of_ble_eq_true rfl) dX3_askRule_25 ⟨Nat.zero_le _, Nat.zero_le _⟩) hS (fun H locs hP hS => ?_)
    refine lv_goto (tgt := 32) hx hb dX3_askRule_28 (by decide) ?_
    refine lv_istore (lv' := [(6, .int (fX3_arcRuleAnswer st1 x2 x3)), (5, .int ((fX0_startForRule st 1).1)), (0, .ref (ad 0 0)), (1, .ref (ad 1 1)), (2, .int x2), (3, .long x3)]) hx hb dX3_askRule_32 hl (by decide) rfl (fun ls hl => ?_)
    refine lv_iload hx hb dX3_askRule_34 (lv_at hl 0 rfl) ?_
    refine lv_iconst (v := 1) hx hb dX3_askRule_36 (by decide) ?_
    refine lv_icmp_eq (tgt := 50) hx hb dX3_askRule_37 (by decide) (fun c_3 => ?_) (fun c_3 => ?_)
    · refine lv_iload hx hb dX3_askRule_50 (lv_at hl 0 rfl) ?_
      exact W.iret (v := (fX3_arcRuleAnswer st1 x2 x3)) hx hb hr (fun t ht hW => ⟨⟨(fX3_arcRuleAnswer st1 x2 x3), st1, rfl, (by subst e1; simp only [fX3_askRule_1, if_pos c_2, if_pos c_3]), ow_Bi ht hP⟩, hS.F ht⟩) hS.2.2 dX3_askRule_52
    · refine lv_aload_n hx hb dX3_askRule_40 rfl (lv_at hl 2 rfl) ?_
      refine lv_dup hx hb dX3_askRule_41 rfl ?_
      refine og_get (C := RX3) (T := TX3) (N := 14) (g := 0) (i := 0) (v := .int (st1.1 0 0)) hx hb hts li_X3_askRule_1_X3 hown hC hP (ow_q0_0) rfl rfl 7 (by decide) (hts _ lk_X3_askRule_1_6) rfl rfl dX3_askRule_42 ?_
      refine lv_iconst (v := 1) hx hb dX3_askRule_45 (by decide) ?_
      refine lv_iadd hx hb dX3_askRule_46 ?_
      refine og_put (C := RX3) (T := TX3) (N := 14) (g := 0) (i := 0) (v := .int ((st1.1 0 0) + 1)) (ty := .int) hx hb hts li_X3_askRule_1_X3 tyX3 tyX3_ok nmX3 hown hC hP hS (ow_q0_0) rfl rfl 7 (by decide) (hts _ lk_X3_askRule_1_6) rfl rfl (by decide +kernel) rfl rfl (Nat.le_of_ble_eq_true rfl) (we_0_0 st1 ((st1.1 0 0) + 1)) dX3_askRule_47 (fun H locs hP hS => ?_)
      obtain ⟨st4, e4⟩ : ∃ z, z = (ow_si st1 0 0 ((st1.1 0 0) + 1)) := ⟨_, rfl⟩
      rw [← e4] at hP
      refine lv_iload hx hb dX3_askRule_50 (lv_at hl 0 rfl) ?_
      exact W.iret (v := (fX3_arcRuleAnswer st1 x2 x3)) hx hb hr (fun t ht hW => ⟨⟨(fX3_arcRuleAnswer st1 x2 x3), st4, rfl, (by subst e4; subst e1; simp only [fX3_askRule_1, if_pos c_2, if_neg c_3]), ow_Bi ht hP⟩, hS.F ht⟩) hS.2.2 dX3_askRule_52
  · refine lv_iload hx hb dX3_askRule_12 (lv_at hl 0 rfl) ?_
    exact W.iret (v := (fX0_startForRule st 1).1) hx hb hr (fun t ht hW => ⟨⟨(fX0_startForRule st 1).1, st1, rfl, (by subst e1; simp only [fX3_askRule_1, if_neg c_2]), ow_Bi ht hP⟩, hS.F ht⟩) hS.2.2 dX3_askRule_14

theorem ln_X3_askRule_2_0 : (.methodLinkNest RX3 209 yX0_startForRule "RecordLabels" : Cond) ∈ ow_nest := by decide +kernel
theorem lk_X3_askRule_2_1 : (.initialized RX0 : Cond) ∈ wsX3_askRule := by decide +kernel
theorem lk_X3_askRule_2_2 : (.instanceMethod yX0_startForRule : Cond) ∈ wsX3_askRule := by decide +kernel
theorem lk_X3_askRule_2_3 : (.selects RX0 yX0_startForRule yX0_startForRule : Cond) ∈ wsX3_askRule := by decide +kernel
theorem li_X3_askRule_2_X3 : ∀ w ∈ u_ws RX3 TX3 14, w ∈ wsX3_askRule := by decide +kernel
theorem lk_X3_askRule_2_5 : (.fieldLink RX3 25 "RecordLabels" "arcKind" "LRecordLabels$Kind;" : Cond) ∈ wsX3_askRule := by decide +kernel
def fX3_askRule_2 (st : ow_St) (x2 : Int32) (x3 : Int64) : Int32 × ow_St := (let st1 := (fX0_startForRule st 2).2; (if (fX0_startForRule st 2).1 = 1 then (1, st1) else ((fX0_startForRule st 2).1, st1)))
set_option maxHeartbeats 4000000 in
set_option maxRecDepth 100000 in
theorem kX3_askRule_2 (l : Launch) (D : va_G) (ca : Nat → ClassId) (ad : ow_Ad) (A : Nat → Prop) (st : ow_St) (x2 : Int32) (x3 : Int64) : Met l yX3_askRule wsX3_askRule ({ frames := 1, cells := 0, slots := 0, locals := 20 }) (va_Pc [.ref (ad 0 0), .ref (ad 1 2), .int x2, .long x3] (ow_W D ca ad A st)) (va_Qi (fun r st' => (r, st') = (fX3_askRule_2 st x2 x3)) (ow_B D ca ad) A) 0 0 A := by
  refine Met.ofW (cc := cX3_askRule) (maxL := 7) (ret := (some .int)) (by decide) rfl ?_
  intro p e s m args below meth c s₁ B hml hv
  obtain ⟨rfl, hP, hC⟩ := hv
  have hx := B.exec
  have hb := B.bytes
  have hr := B.returns
  have hts := atoms_spec (ws := wsX3_askRule) B.pre
  have hown : s.vm.findClass RX3 = some m.cls := findClass_of_methodNamed B.named
  have hlocks := B.notSynchronized
  have hS : va_S A s.heap s.heap [] := va_S.rf
  have hl := lv_entry ([.ref (ad 0 0), .ref (ad 1 2), .int x2, .long x3]) (n := 7) (Nat.le_of_ble_eq_true rfl)
  rw [lg_entry_eq]
  generalize (lg_sl ([.ref (ad 0 0), .ref (ad 1 2), .int x2, .long x3]) ++ List.replicate (7 - (lg_sl ([.ref (ad 0 0), .ref (ad 1 2), .int x2, .long x3])).length) Slot.unset).toArray = ls at hl ⊢
  have hl : lv_has ls 7 [(0, .ref (ad 0 0)), (1, .ref (ad 1 2)), (2, .int x2), (3, .long x3)] := hl
  refine lv_aload_n hx hb dX3_askRule_0 rfl (lv_at hl 1 rfl) ?_
  refine og_ciW (og_runVN (C := RX0) (T := TX0) (N := 7) (g := 1) (i := 2) (As := []) (rest := []) ⟨hx, hb, hml, hown, hts⟩ (kX0_startForRule l D ca ad A st 2 (by decide)) ⟨va_cnB 0 hts gX3_askRule_X0_startForRule_n209 rfl rfl rfl (hC.2.2.1 _ ln_X3_askRule_2_0) (hts _ lk_X3_askRule_2_1) (by decide +kernel) ⟨Nat.le_of_ble_eq_true rfl, Nat.le_of_ble_eq_true rfl⟩, (hts _ lk_X3_askRule_2_2), (hts _ lk_X3_askRule_2_3)⟩ hC hP hS (ow_q1_2) rfl rfl rfl hl.1 rfl (Nat.le_of_ble_eq_true rfl) dX3_askRule_1 ⟨Nat.zero_le _, Nat.zero_le _⟩) hS (fun H locs hP hS => ?_)
  obtain ⟨st1, e1⟩ : ∃ z, z = (fX0_startForRule st 2).2 := ⟨_, rfl⟩
  rw [← e1] at hP
  refine lv_istore (lv' := [(5, .int ((fX0_startForRule st 2).1)), (0, .ref (ad 0 0)), (1, .ref (ad 1 2)), (2, .int x2), (3, .long x3)]) hx hb dX3_askRule_4 hl (by decide) rfl (fun ls hl => ?_)
  refine lv_iload hx hb dX3_askRule_6 (lv_at hl 0 rfl) ?_
  refine lv_iconst (v := 1) hx hb dX3_askRule_8 (by decide) ?_
  refine lv_icmp_eq (tgt := 15) hx hb dX3_askRule_9 (by decide) (fun c_2 => ?_) (fun c_2 => ?_)
  · refine lv_aload_n hx hb dX3_askRule_15 rfl (lv_at hl 2 rfl) ?_
    refine lv_aload_n hx hb dX3_askRule_16 rfl (lv_at hl 1 rfl) ?_
    refine og_get (C := RX3) (T := TX3) (N := 14) (g := 0) (i := 0) (v := .ref (ad 1 1)) hx hb hts li_X3_askRule_2_X3 hown hC hP (ow_q0_0) rfl rfl 1 (by decide) (hts _ lk_X3_askRule_2_5) rfl rfl dX3_askRule_17 ?_
    refine lv_acmp_ne (rx := some (ad 1 2)) (ry := some (ad 1 1)) (tgt := 31) hx hb dX3_askRule_20 (by decide) (fun _ => ?_) (fun c => absurd c (fun h => absurd (ow_inj hC.2.1 (ow_q1_2) (ow_q1_1) (Option.some.inj h)).2 (by decide)))
    refine lv_iconst (v := 1) hx hb dX3_askRule_31 (by decide) ?_
    refine lv_istore (lv' := [(6, .int 1), (5, .int ((fX0_startForRule st 2).1)), (0, .ref (ad 0 0)), (1, .ref (ad 1 2)), (2, .int x2), (3, .long x3)]) hx hb dX3_askRule_32 hl (by decide) rfl (fun ls hl => ?_)
    refine lv_iload hx hb dX3_askRule_34 (lv_at hl 0 rfl) ?_
    refine lv_iconst (v := 1) hx hb dX3_askRule_36 (by decide) ?_
    refine lv_icmp_eq (tgt := 50) hx hb dX3_askRule_37 (by decide) (fun _ => ?_) (fun c => absurd (by decide) c)
    refine lv_iload hx hb dX3_askRule_50 (lv_at hl 0 rfl) ?_
    exact W.iret (v := 1) hx hb hr (fun t ht hW => ⟨⟨1, st1, rfl, (by subst e1; simp only [fX3_askRule_2, if_pos c_2]), ow_Bi ht hP⟩, hS.F ht⟩) hS.2.2 dX3_askRule_52
  · refine lv_iload hx hb dX3_askRule_12 (lv_at hl 0 rfl) ?_
    exact W.iret (v := (fX0_startForRule st 2).1) hx hb hr (fun t ht hW => ⟨⟨(fX0_startForRule st 2).1, st1, rfl, (by subst e1; simp only [fX3_askRule_2, if_neg c_2]), ow_Bi ht hP⟩, hS.F ht⟩) hS.2.2 dX3_askRule_14

theorem ln_X3_joined_0 : (.fieldLinkNest RX3 146 "RecordLabels$LabelSet" "members" "I" "RecordLabels" : Cond) ∈ ow_nest := by decide +kernel
theorem li_X3_joined_X1 : ∀ w ∈ u_ws RX1 TX1 2, w ∈ wsX3_joined := by decide +kernel
theorem ln_X3_joined_2 : (.fieldLinkNest RX3 140 "RecordLabels$LabelSet" "kind" "LRecordLabels$Kind;" "RecordLabels" : Cond) ∈ ow_nest := by decide +kernel
theorem ln_X3_joined_3 : (.fieldLinkNest RX3 153 "RecordLabels$Kind" "size" "I" "RecordLabels" : Cond) ∈ ow_nest := by decide +kernel
theorem li_X3_joined_X0 : ∀ w ∈ u_ws RX0 TX0 7, w ∈ wsX3_joined := by decide +kernel
def fX3_joined (st : ow_St) (x0 : Int32) (i j : Nat) : Int32 := (if x0 = 0 then ((st.1 3 i) ||| (st.1 3 j)) else (if x0 = 1 then ((st.1 3 i) &&& (st.1 3 j)) else (if x0 = 2 then ((st.1 3 i) &&& ((st.1 3 j) ^^^ (-1))) else (((1 <<< ((nI (mn (st.2.2 (i + 1)))) &&& 31)) - 1) &&& ((st.1 3 i) ^^^ (-1))))))
set_option maxHeartbeats 4000000 in
set_option maxRecDepth 100000 in
theorem kX3_joined (l : Launch) (D : va_G) (ca : Nat → ClassId) (ad : ow_Ad) (A : Nat → Prop) (st : ow_St) (x0 : Int32) (i : Nat) (hi : i < 10) (j : Nat) (hj : j < 10) (hki : st.2.2 (i + 1) < 3) : Met l yX3_joined wsX3_joined ({ frames := 0, cells := 0, slots := 0, locals := 0 }) (va_Pc [.int x0, .ref (ad 5 i), .ref (ad 5 j)] (ow_W D ca ad A st)) (va_Qi (fun r st' => r = (fX3_joined st x0 i j) ∧ st' = st) (ow_B D ca ad) A) 0 0 A := by
  refine Met.ofW (cc := cX3_joined) (maxL := 3) (ret := (some .int)) (by decide) rfl ?_
  intro p e s m args below meth c s₁ B hml hv
  obtain ⟨rfl, hP, hC⟩ := hv
  have hx := B.exec
  have hb := B.bytes
  have hr := B.returns
  have hts := atoms_spec (ws := wsX3_joined) B.pre
  have hown : s.vm.findClass RX3 = some m.cls := findClass_of_methodNamed B.named
  have hlocks := B.notSynchronized
  have hS : va_S A s.heap s.heap [] := va_S.rf
  have hl := lv_entry ([.int x0, .ref (ad 5 i), .ref (ad 5 j)]) (n := 3) (Nat.le_of_ble_eq_true rfl)
  rw [lg_entry_eq]
  generalize (lg_sl ([.int x0, .ref (ad 5 i), .ref (ad 5 j)]) ++ List.replicate (3 - (lg_sl ([.int x0, .ref (ad 5 i), .ref (ad 5 j)])).length) Slot.unset).toArray = ls at hl ⊢
  have hl : lv_has ls 3 [(0, .int x0), (1, .ref (ad 5 i)), (2, .ref (ad 5 j))] := hl
  refine lv_iload_n hx hb dX3_joined_0 rfl (lv_at hl 0 rfl) ?_
  by_cases c_1 : x0 = 0
  · refine lv_tableIn (tgt := 28) (off := 27) hx hb dX3_joined_1 (by rw [c_1]; decide) (by rw [c_1]; decide) (by rw [c_1]; rfl) (by decide) ?_
    refine lv_aload_n hx hb dX3_joined_28 rfl (lv_at hl 1 rfl) ?_
    refine og_getN (C := RX1) (T := TX1) (N := 2) (g := 5) (i := i) (v := .int (st.1 3 i)) hx hb hts li_X3_joined_X1 hown hC hP (ow_m5 hi) rfl rfl 1 (by decide) ln_X3_joined_0 rfl rfl dX3_joined_29 ?_
    refine lv_aload_n hx hb dX3_joined_32 rfl (lv_at hl 2 rfl) ?_
    refine og_getN (C := RX1) (T := TX1) (N := 2) (g := 5) (i := j) (v := .int (st.1 3 j)) hx hb hts li_X3_joined_X1 hown hC hP (ow_m5 hj) rfl rfl 1 (by decide) ln_X3_joined_0 rfl rfl dX3_joined_33 ?_
    refine lv_ior hx hb dX3_joined_36 ?_
    exact W.iret (v := ((st.1 3 i) ||| (st.1 3 j))) hx hb hr (fun t ht hW => ⟨⟨((st.1 3 i) ||| (st.1 3 j)), st, rfl, ⟨(by simp only [fX3_joined, if_pos c_1]), rfl⟩, ow_Bi ht hP⟩, hS.F ht⟩) hS.2.2 dX3_joined_37
  · by_cases c_2 : x0 = 1
    · refine lv_tableIn (tgt := 38) (off := 37) hx hb dX3_joined_1 (by rw [c_2]; decide) (by rw [c_2]; decide) (by rw [c_2]; rfl) (by decide) ?_
      refine lv_aload_n hx hb dX3_joined_38 rfl (lv_at hl 1 rfl) ?_
      refine og_getN (C := RX1) (T := TX1) (N := 2) (g := 5) (i := i) (v := .int (st.1 3 i)) hx hb hts li_X3_joined_X1 hown hC hP (ow_m5 hi) rfl rfl 1 (by decide) ln_X3_joined_0 rfl rfl dX3_joined_39 ?_
      refine lv_aload_n hx hb dX3_joined_42 rfl (lv_at hl 2 rfl) ?_
      refine og_getN (C := RX1) (T := TX1) (N := 2) (g := 5) (i := j) (v := .int (st.1 3 j)) hx hb hts li_X3_joined_X1 hown hC hP (ow_m5 hj) rfl rfl 1 (by decide) ln_X3_joined_0 rfl rfl dX3_joined_43 ?_
      refine lv_iand hx hb dX3_joined_46 ?_
      exact W.iret (v := ((st.1 3 i) &&& (st.1 3 j))) hx hb hr (fun t ht hW => ⟨⟨((st.1 3 i) &&& (st.1 3 j)), st, rfl, ⟨(by simp only [fX3_joined, if_neg c_1, if_pos c_2]), rfl⟩, ow_Bi ht hP⟩, hS.F ht⟩) hS.2.2 dX3_joined_47
    · by_cases c_3 : x0 = 2
      · refine lv_tableIn (tgt := 48) (off := 47) hx hb dX3_joined_1 (by rw [c_3]; decide) (by rw [c_3]; decide) (by rw [c_3]; rfl) (by decide) ?_
        refine lv_aload_n hx hb dX3_joined_48 rfl (lv_at hl 1 rfl) ?_
        refine og_getN (C := RX1) (T := TX1) (N := 2) (g := 5) (i := i) (v := .int (st.1 3 i)) hx hb hts li_X3_joined_X1 hown hC hP (ow_m5 hi) rfl rfl 1 (by decide) ln_X3_joined_0 rfl rfl dX3_joined_49 ?_
        refine lv_aload_n hx hb dX3_joined_52 rfl (lv_at hl 2 rfl) ?_
        refine og_getN (C := RX1) (T := TX1) (N := 2) (g := 5) (i := j) (v := .int (st.1 3 j)) hx hb hts li_X3_joined_X1 hown hC hP (ow_m5 hj) rfl rfl 1 (by decide) ln_X3_joined_0 rfl rfl dX3_joined_53 ?_
        refine lv_iconst (v := (-1)) hx hb dX3_joined_56 (by decide) ?_
        refine lv_ixor hx hb dX3_joined_57 ?_
        refine lv_iand hx hb dX3_joined_58 ?_
        exact W.iret (v := ((st.1 3 i) &&& ((st.1 3 j) ^^^ (-1)))) hx hb hr (fun t ht hW => ⟨⟨((st.1 3 i) &&& ((st.1 3 j) ^^^ (-1))), st, rfl, ⟨(by simp only [fX3_joined, if_neg c_1, if_neg c_2, if_pos c_3]), rfl⟩, ow_Bi ht hP⟩, hS.F ht⟩) hS.2.2 dX3_joined_59
      · refine lv_tableOut (tgt := 60) hx hb dX3_joined_1 (by have h0 := ow_ne (n := 0) 0 rfl c_1; have h1 := ow_ne (n := 1) 1 rfl c_2; have h2 := ow_ne (n := 2) 2 rfl c_3; omega) (by decide) ?_
        refine lv_iconst (v := 1) hx hb dX3_joined_60 (by decide) ?_
        refine lv_aload_n hx hb dX3_joined_61 rfl (lv_at hl 1 rfl) ?_
        refine og_getN (C := RX1) (T := TX1) (N := 2) (g := 5) (i := i) (v := .ref (ad 1 (st.2.2 (i + 1)))) hx hb hts li_X3_joined_X1 hown hC hP (ow_m5 hi) rfl rfl 0 (by decide) ln_X3_joined_2 rfl rfl dX3_joined_62 ?_
        refine og_getN (C := RX0) (T := TX0) (N := 7) (g := 1) (i := (st.2.2 (i + 1))) (v := .int (nI (mn (st.2.2 (i + 1))))) hx hb hts li_X3_joined_X0 hown hC hP (ow_m1 hki) rfl rfl 2 (by decide) ln_X3_joined_3 rfl rfl dX3_joined_65 ?_
        refine lv_ishl hx hb dX3_joined_68 ?_
        refine lv_iconst (v := 1) hx hb dX3_joined_69 (by decide) ?_
        refine lv_isub hx hb dX3_joined_70 ?_
        refine lv_aload_n hx hb dX3_joined_71 rfl (lv_at hl 1 rfl) ?_
        refine og_getN (C := RX1) (T := TX1) (N := 2) (g := 5) (i := i) (v := .int (st.1 3 i)) hx hb hts li_X3_joined_X1 hown hC hP (ow_m5 hi) rfl rfl 1 (by decide) ln_X3_joined_0 rfl rfl dX3_joined_72 ?_
        refine lv_iconst (v := (-1)) hx hb dX3_joined_75 (by decide) ?_
        refine lv_ixor hx hb dX3_joined_76 ?_
        refine lv_iand hx hb dX3_joined_77 ?_
        exact W.iret (v := (((1 <<< ((nI (mn (st.2.2 (i + 1)))) &&& 31)) - 1) &&& ((st.1 3 i) ^^^ (-1)))) hx hb hr (fun t ht hW => ⟨⟨(((1 <<< ((nI (mn (st.2.2 (i + 1)))) &&& 31)) - 1) &&& ((st.1 3 i) ^^^ (-1))), st, rfl, ⟨(by simp only [fX3_joined, if_neg c_1, if_neg c_2, if_neg c_3]), rfl⟩, ow_Bi ht hP⟩, hS.F ht⟩) hS.2.2 dX3_joined_78

theorem ln_X3_kindOfItem_0_0 : (.fieldLinkNest RX3 192 "RecordLabels$Table" "kind" "LRecordLabels$Kind;" "RecordLabels" : Cond) ∈ ow_nest := by decide +kernel
theorem li_X3_kindOfItem_0_X2 : ∀ w ∈ u_ws RX2 TX2 5, w ∈ wsX3_kindOfItem := by decide +kernel
theorem li_X3_kindOfItem_0_X3 : ∀ w ∈ u_ws RX3 TX3 14, w ∈ wsX3_kindOfItem := by decide +kernel
theorem lk_X3_kindOfItem_0_3 : (.fieldLink RX3 45 "RecordLabels" "nodeTable" "LRecordLabels$Table;" : Cond) ∈ wsX3_kindOfItem := by decide +kernel
theorem lk_X3_kindOfItem_0_4 : (.fieldLink RX3 31 "RecordLabels" "signKind" "LRecordLabels$Kind;" : Cond) ∈ wsX3_kindOfItem := by decide +kernel
def fX3_kindOfItem_0 (ad : ow_Ad) (st : ow_St) (x2 : Int32) : Option Nat := (if x2 = 0 then some (ad 1 0) else (if x2 = 2 then some (ad 1 2) else none))
set_option maxHeartbeats 4000000 in
set_option maxRecDepth 100000 in
theorem kX3_kindOfItem_0 (l : Launch) (D : va_G) (ca : Nat → ClassId) (ad : ow_Ad) (A : Nat → Prop) (st : ow_St) (x2 : Int32) : Met l yX3_kindOfItem wsX3_kindOfItem ({ frames := 0, cells := 0, slots := 0, locals := 0 }) (va_Pc [.ref (ad 0 0), .ref (ad 6 0), .int x2] (ow_W D ca ad A st)) (va_Qq (fun r st' => r = (fX3_kindOfItem_0 ad st x2) ∧ st' = st) (ow_B D ca ad) A) 0 0 A := by
  refine Met.ofW (cc := cX3_kindOfItem) (maxL := 3) (ret := (some (.object "RecordLabels$Kind"))) (by decide) rfl ?_
  intro p e s m args below meth c s₁ B hml hv
  obtain ⟨rfl, hP, hC⟩ := hv
  have hx := B.exec
  have hb := B.bytes
  have hr := B.returns
  have hts := atoms_spec (ws := wsX3_kindOfItem) B.pre
  have hown : s.vm.findClass RX3 = some m.cls := findClass_of_methodNamed B.named
  have hlocks := B.notSynchronized
  have hS : va_S A s.heap s.heap [] := va_S.rf
  have hl := lv_entry ([.ref (ad 0 0), .ref (ad 6 0), .int x2]) (n := 3) (Nat.le_of_ble_eq_true rfl)
  rw [lg_entry_eq]
  generalize (lg_sl ([.ref (ad 0 0), .ref (ad 6 0), .int x2]) ++ List.replicate (3 - (lg_sl ([.ref (ad 0 0), .ref (ad 6 0), .int x2])).length) Slot.unset).toArray = ls at hl ⊢
  have hl : lv_has ls 3 [(0, .ref (ad 0 0)), (1, .ref (ad 6 0)), (2, .int x2)] := hl
  refine lv_iload_n hx hb dX3_kindOfItem_0 rfl (lv_at hl 2 rfl) ?_
  refine lv_if_ne (tgt := 9) hx hb dX3_kindOfItem_1 (by decide) (fun c_1 => ?_) (fun c_1 => ?_)
  · refine lv_aload_n hx hb dX3_kindOfItem_9 rfl (lv_at hl 1 rfl) ?_
    refine lv_aload_n hx hb dX3_kindOfItem_10 rfl (lv_at hl 0 rfl) ?_
    refine og_get (C := RX3) (T := TX3) (N := 14) (g := 0) (i := 0) (v := .ref (ad 6 0)) hx hb hts li_X3_kindOfItem_0_X3 hown hC hP (ow_q0_0) rfl rfl 4 (by decide) (hts _ lk_X3_kindOfItem_0_3) rfl rfl dX3_kindOfItem_11 ?_
    refine lv_acmp_ne (rx := some (ad 6 0)) (ry := some (ad 6 0)) (tgt := 29) hx hb dX3_kindOfItem_14 (by decide) (fun c => absurd rfl c) (fun _ => ?_)
    refine lv_iload_n hx hb dX3_kindOfItem_17 rfl (lv_at hl 2 rfl) ?_
    refine lv_iconst (v := 2) hx hb dX3_kindOfItem_18 (by decide) ?_
    refine lv_icmp_ne (tgt := 29) hx hb dX3_kindOfItem_19 (by decide) (fun c_2 => ?_) (fun c_2 => ?_)
    · refine lv_null hx hb dX3_kindOfItem_29 ?_
      exact W.aret (v := va_rf none) hx hb hr (Or.inl ⟨_, rfl⟩) (Or.inl rfl) (fun t ht hW => ⟨⟨none, st, rfl, ⟨(by simp only [fX3_kindOfItem_0, if_neg c_1, if_neg c_2]), rfl⟩, ow_Bi ht hP⟩, hS.F ht⟩) hS.2.2 dX3_kindOfItem_30
    · refine lv_aload_n hx hb dX3_kindOfItem_22 rfl (lv_at hl 0 rfl) ?_
      refine og_get (C := RX3) (T := TX3) (N := 14) (g := 0) (i := 0) (v := .ref (ad 1 2)) hx hb hts li_X3_kindOfItem_0_X3 hown hC hP (ow_q0_0) rfl rfl 2 (by decide) (hts _ lk_X3_kindOfItem_0_4) rfl rfl dX3_kindOfItem_23 ?_
      refine lv_goto (tgt := 30) hx hb dX3_kindOfItem_26 (by decide) ?_
      exact W.aret (v := va_rf (some (ad 1 2))) hx hb hr (Or.inl ⟨_, rfl⟩) (Or.inr ⟨_, rfl⟩) (fun t ht hW => ⟨⟨(some (ad 1 2)), st, rfl, ⟨(by simp only [fX3_kindOfItem_0, if_neg c_1, if_pos c_2]), rfl⟩, ow_Bi ht hP⟩, hS.F ht⟩) hS.2.2 dX3_kindOfItem_30
  · refine lv_aload_n hx hb dX3_kindOfItem_4 rfl (lv_at hl 1 rfl) ?_
    refine og_getN (C := RX2) (T := TX2) (N := 5) (g := 6) (i := 0) (v := .ref (ad 1 0)) hx hb hts li_X3_kindOfItem_0_X2 hown hC hP (ow_q6_0) rfl rfl 0 (by decide) ln_X3_kindOfItem_0_0 rfl rfl dX3_kindOfItem_5 ?_
    exact W.aret (v := va_rf (some (ad 1 0))) hx hb hr (Or.inl ⟨_, rfl⟩) (Or.inr ⟨_, rfl⟩) (fun t ht hW => ⟨⟨(some (ad 1 0)), st, rfl, ⟨(by simp only [fX3_kindOfItem_0, if_pos c_1]), rfl⟩, ow_Bi ht hP⟩, hS.F ht⟩) hS.2.2 dX3_kindOfItem_8

theorem ln_X3_toCell_0_0 : (.methodLinkNest RX3 94 yX0_constantOf "RecordLabels" : Cond) ∈ ow_nest := by decide +kernel
theorem lk_X3_toCell_0_1 : (.initialized RX0 : Cond) ∈ wsX3_toCell := by decide +kernel
theorem lk_X3_toCell_0_2 : (.instanceMethod yX0_constantOf : Cond) ∈ wsX3_toCell := by decide +kernel
theorem lk_X3_toCell_0_3 : (.selects RX0 yX0_constantOf yX0_constantOf : Cond) ∈ wsX3_toCell := by decide +kernel
def fX3_toCell_0 (st : ow_St) (x2 x3 : Int32) : Int32 := (if x2 = 0 then (fX0_constantOf st 0 x3) else (if x2 = 2 then (fX0_constantOf st 2 x3) else x3))
set_option maxHeartbeats 4000000 in
set_option maxRecDepth 100000 in
theorem kX3_toCell_0 (l : Launch) (D : va_G) (ca : Nat → ClassId) (ad : ow_Ad) (A : Nat → Prop) (st : ow_St) (x2 : Int32) (x3 : Int32) : Met l yX3_toCell wsX3_toCell ({ frames := 2, cells := 0, slots := 0, locals := 42 }) (va_Pc [.ref (ad 0 0), .ref (ad 6 0), .int x2, .int x3] (ow_W D ca ad A st)) (va_Qi (fun r st' => r = (fX3_toCell_0 st x2 x3) ∧ st' = st) (ow_B D ca ad) A) 0 0 A := by
  refine Met.ofW (cc := cX3_toCell) (maxL := 5) (ret := (some .int)) (by decide) rfl ?_
  intro p e s m args below meth c s₁ B hml hv
  obtain ⟨rfl, hP, hC⟩ := hv
  have hx := B.exec
  have hb := B.bytes
  have hr := B.returns
  have hts := atoms_spec (ws := wsX3_toCell) B.pre
  have hown : s.vm.findClass RX3 = some m.cls := findClass_of_methodNamed B.named
  have hlocks := B.notSynchronized
  have hS : va_S A s.heap s.heap [] := va_S.rf
  have hl := lv_entry ([.ref (ad 0 0), .ref (ad 6 0), .int x2, .int x3]) (n := 5) (Nat.le_of_ble_eq_true rfl)
  rw [lg_entry_eq]
  generalize (lg_sl ([.ref (ad 0 0), .ref (ad 6 0), .int x2, .int x3]) ++ List.replicate (5 - (lg_sl ([.ref (ad 0 0), .ref (ad 6 0), .int x2, .int x3])).length) Slot.unset).toArray = ls at hl ⊢
  have hl : lv_has ls 5 [(0, .ref (ad 0 0)), (1, .ref (ad 6 0)), (2, .int x2), (3, .int x3)] := hl
  refine lv_aload_n hx hb dX3_toCell_0 rfl (lv_at hl 0 rfl) ?_
  refine lv_aload_n hx hb dX3_toCell_1 rfl (lv_at hl 1 rfl) ?_
  refine lv_iload_n hx hb dX3_toCell_2 rfl (lv_at hl 2 rfl) ?_
  by_cases c_1 : x2 = 0
  · refine og_cqS (q := ad 1 0) (og_runV (C := RX3) (T := TX3) (N := 14) (g := 0) (i := 0) (As := [.ref (ad 6 0), .int x2]) (rest := []) ⟨hx, hb, hml, hown, hts⟩ (kX3_kindOfItem_0 l D ca ad A st x2) (cwV 2 hts gX3_toCell_X3_kindOfItem rfl rfl rfl (by decide +kernel) ⟨Nat.le_of_ble_eq_true rfl, Nat.le_of_ble_eq_true rfl⟩) hC hP hS (ow_q0_0) rfl rfl rfl hl.1 rfl (Nat.le_of_ble_eq_true rfl) dX3_toCell_3 ⟨Nat.zero_le _, Nat.zero_le _⟩) hS (by simp only [fX3_kindOfItem_0, if_pos c_1]) (fun H locs hP hS => ?_)
    refine lv_astore (lv' := [(4, .ref (ad 1 0)), (0, .ref (ad 0 0)), (1, .ref (ad 6 0)), (2, .int x2), (3, .int x3)]) hx hb dX3_toCell_6 hl (by decide) rfl (fun ls hl => ?_)
    refine lv_aload hx hb dX3_toCell_8 (lv_at hl 0 rfl) ?_
    refine lv_ifnonnull (tgt := 17) hx hb dX3_toCell_10 (by decide) ?_
    refine lv_aload hx hb dX3_toCell_17 (lv_at hl 0 rfl) ?_
    refine lv_iload_n hx hb dX3_toCell_19 rfl (lv_at hl 4 rfl) ?_
    refine og_ciP (og_runVN (C := RX0) (T := TX0) (N := 7) (g := 1) (i := 0) (As := [.int x3]) (rest := []) ⟨hx, hb, hml, hown, hts⟩ (kX0_constantOf l D ca ad A st 0 (by decide) x3) ⟨va_cnB 1 hts gX3_toCell_X0_constantOf_n94 rfl rfl rfl (hC.2.2.1 _ ln_X3_toCell_0_0) (hts _ lk_X3_toCell_0_1) (by decide +kernel) ⟨Nat.le_of_ble_eq_true rfl, Nat.le_of_ble_eq_true rfl⟩, (hts _ lk_X3_toCell_0_2), (hts _ lk_X3_toCell_0_3)⟩ hC hP hS (ow_q1_0) rfl rfl rfl hl.1 rfl (Nat.le_of_ble_eq_true rfl) dX3_toCell_20 ⟨Nat.zero_le _, Nat.zero_le _⟩) hS (fun H locs hP hS => ?_)
    exact W.iret (v := (fX0_constantOf st 0 x3)) hx hb hr (fun t ht hW => ⟨⟨(fX0_constantOf st 0 x3), st, rfl, ⟨(by simp only [fX3_toCell_0, if_pos c_1]), rfl⟩, ow_Bi ht hP⟩, hS.F ht⟩) hS.2.2 dX3_toCell_23
  · by_cases c_2 : x2 = 2
    · refine og_cqS (q := ad 1 2) (og_runV (C := RX3) (T := TX3) (N := 14) (g := 0) (i := 0) (As := [.ref (ad 6 0), .int x2]) (rest := []) ⟨hx, hb, hml, hown, hts⟩ (kX3_kindOfItem_0 l D ca ad A st x2) (cwV 2 hts gX3_toCell_X3_kindOfItem rfl rfl rfl (by decide +kernel) ⟨Nat.le_of_ble_eq_true rfl, Nat.le_of_ble_eq_true rfl⟩) hC hP hS (ow_q0_0) rfl rfl rfl hl.1 rfl (Nat.le_of_ble_eq_true rfl) dX3_toCell_3 ⟨Nat.zero_le _, Nat.zero_le _⟩) hS (by simp only [fX3_kindOfItem_0, if_neg c_1, if_pos c_2]) (fun H locs hP hS => ?_)
      refine lv_astore (lv' := [(4, .ref (ad 1 2)), (0, .ref (ad 0 0)), (1, .ref (ad 6 0)), (2, .int x2), (3, .int x3)]) hx hb dX3_toCell_6 hl (by decide) rfl (fun ls hl => ?_)
      refine lv_aload hx hb dX3_toCell_8 (lv_at hl 0 rfl) ?_
      refine lv_ifnonnull (tgt := 17) hx hb dX3_toCell_10 (by decide) ?_
      refine lv_aload hx hb dX3_toCell_17 (lv_at hl 0 rfl) ?_
      refine lv_iload_n hx hb dX3_toCell_19 rfl (lv_at hl 4 rfl) ?_
      refine og_ciP (og_runVN (C := RX0) (T := TX0) (N := 7) (g := 1) (i := 2) (As := [.int x3]) (rest := []) ⟨hx, hb, hml, hown, hts⟩ (kX0_constantOf l D ca ad A st 2 (by decide) x3) ⟨va_cnB 1 hts gX3_toCell_X0_constantOf_n94 rfl rfl rfl (hC.2.2.1 _ ln_X3_toCell_0_0) (hts _ lk_X3_toCell_0_1) (by decide +kernel) ⟨Nat.le_of_ble_eq_true rfl, Nat.le_of_ble_eq_true rfl⟩, (hts _ lk_X3_toCell_0_2), (hts _ lk_X3_toCell_0_3)⟩ hC hP hS (ow_q1_2) rfl rfl rfl hl.1 rfl (Nat.le_of_ble_eq_true rfl) dX3_toCell_20 ⟨Nat.zero_le _, Nat.zero_le _⟩) hS (fun H locs hP hS => ?_)
      exact W.iret (v := (fX0_constantOf st 2 x3)) hx hb hr (fun t ht hW => ⟨⟨(fX0_constantOf st 2 x3), st, rfl, ⟨(by simp only [fX3_toCell_0, if_neg c_1, if_pos c_2]), rfl⟩, ow_Bi ht hP⟩, hS.F ht⟩) hS.2.2 dX3_toCell_23
    · refine og_cqN (og_runV (C := RX3) (T := TX3) (N := 14) (g := 0) (i := 0) (As := [.ref (ad 6 0), .int x2]) (rest := []) ⟨hx, hb, hml, hown, hts⟩ (kX3_kindOfItem_0 l D ca ad A st x2) (cwV 2 hts gX3_toCell_X3_kindOfItem rfl rfl rfl (by decide +kernel) ⟨Nat.le_of_ble_eq_true rfl, Nat.le_of_ble_eq_true rfl⟩) hC hP hS (ow_q0_0) rfl rfl rfl hl.1 rfl (Nat.le_of_ble_eq_true rfl) dX3_toCell_3 ⟨Nat.zero_le _, Nat.zero_le _⟩) hS (by simp only [fX3_kindOfItem_0, if_neg c_1, if_neg c_2]) (fun H locs hP hS => ?_)
      refine lv_astoreN (lv' := [(4, .null), (0, .ref (ad 0 0)), (1, .ref (ad 6 0)), (2, .int x2), (3, .int x3)]) hx hb dX3_toCell_6 hl (by decide) rfl (fun ls hl => ?_)
      refine lv_aloadN hx hb dX3_toCell_8 (lv_at hl 0 rfl) ?_
      refine lv_ifnonnullN hx hb dX3_toCell_10 ?_
      refine lv_iload_n hx hb dX3_toCell_13 rfl (lv_at hl 4 rfl) ?_
      refine lv_goto (tgt := 23) hx hb dX3_toCell_14 (by decide) ?_
      exact W.iret (v := x3) hx hb hr (fun t ht hW => ⟨⟨x3, st, rfl, ⟨(by simp only [fX3_toCell_0, if_neg c_1, if_neg c_2]), rfl⟩, ow_Bi ht hP⟩, hS.F ht⟩) hS.2.2 dX3_toCell_23

theorem ln_X3_fromCell_0_0 : (.methodLinkNest RX3 90 yX0_codeOf "RecordLabels" : Cond) ∈ ow_nest := by decide +kernel
theorem lk_X3_fromCell_0_1 : (.initialized RX0 : Cond) ∈ wsX3_fromCell := by decide +kernel
theorem lk_X3_fromCell_0_2 : (.instanceMethod yX0_codeOf : Cond) ∈ wsX3_fromCell := by decide +kernel
theorem lk_X3_fromCell_0_3 : (.selects RX0 yX0_codeOf yX0_codeOf : Cond) ∈ wsX3_fromCell := by decide +kernel
def fX3_fromCell_0 (st : ow_St) (x2 x3 : Int32) : Int32 := (if x2 = 0 then (fX0_codeOf st 0 x3) else (if x2 = 2 then (fX0_codeOf st 2 x3) else x3))
set_option maxHeartbeats 4000000 in
set_option maxRecDepth 100000 in
theorem kX3_fromCell_0 (l : Launch) (D : va_G) (ca : Nat → ClassId) (ad : ow_Ad) (A : Nat → Prop) (st : ow_St) (x2 : Int32) (x3 : Int32) : Met l yX3_fromCell wsX3_fromCell ({ frames := 2, cells := 0, slots := 0, locals := 42 }) (va_Pc [.ref (ad 0 0), .ref (ad 6 0), .int x2, .int x3] (ow_W D ca ad A st)) (va_Qi (fun r st' => r = (fX3_fromCell_0 st x2 x3) ∧ st' = st) (ow_B D ca ad) A) 0 0 A := by
  refine Met.ofW (cc := cX3_fromCell) (maxL := 5) (ret := (some .int)) (by decide) rfl ?_
  intro p e s m args below meth c s₁ B hml hv
  obtain ⟨rfl, hP, hC⟩ := hv
  have hx := B.exec
  have hb := B.bytes
  have hr := B.returns
  have hts := atoms_spec (ws := wsX3_fromCell) B.pre
  have hown : s.vm.findClass RX3 = some m.cls := findClass_of_methodNamed B.named
  have hlocks := B.notSynchronized
  have hS : va_S A s.heap s.heap [] := va_S.rf
  have hl := lv_entry ([.ref (ad 0 0), .ref (ad 6 0), .int x2, .int x3]) (n := 5) (Nat.le_of_ble_eq_true rfl)
  rw [lg_entry_eq]
  generalize (lg_sl ([.ref (ad 0 0), .ref (ad 6 0), .int x2, .int x3]) ++ List.replicate (5 - (lg_sl ([.ref (ad 0 0), .ref (ad 6 0), .int x2, .int x3])).length) Slot.unset).toArray = ls at hl ⊢
  have hl : lv_has ls 5 [(0, .ref (ad 0 0)), (1, .ref (ad 6 0)), (2, .int x2), (3, .int x3)] := hl
  refine lv_aload_n hx hb dX3_fromCell_0 rfl (lv_at hl 0 rfl) ?_
  refine lv_aload_n hx hb dX3_fromCell_1 rfl (lv_at hl 1 rfl) ?_
  refine lv_iload_n hx hb dX3_fromCell_2 rfl (lv_at hl 2 rfl) ?_
  by_cases c_1 : x2 = 0
  · refine og_cqS (q := ad 1 0) (og_runV (C := RX3) (T := TX3) (N := 14) (g := 0) (i := 0) (As := [.ref (ad 6 0), .int x2]) (rest := []) ⟨hx, hb, hml, hown, hts⟩ (kX3_kindOfItem_0 l D ca ad A st x2) (cwV 2 hts gX3_fromCell_X3_kindOfItem rfl rfl rfl (by decide +kernel) ⟨Nat.le_of_ble_eq_true rfl, Nat.le_of_ble_eq_true rfl⟩) hC hP hS (ow_q0_0) rfl rfl rfl hl.1 rfl (Nat.le_of_ble_eq_true rfl) dX3_fromCell_3 ⟨Nat.zero_le _, Nat.zero_le _⟩) hS (by simp only [fX3_kindOfItem_0, if_pos c_1]) (fun H locs hP hS => ?_)
    refine lv_astore (lv' := [(4, .ref (ad 1 0)), (0, .ref (ad 0 0)), (1, .ref (ad 6 0)), (2, .int x2), (3, .int x3)]) hx hb dX3_fromCell_6 hl (by decide) rfl (fun ls hl => ?_)
    refine lv_aload hx hb dX3_fromCell_8 (lv_at hl 0 rfl) ?_
    refine lv_ifnonnull (tgt := 17) hx hb dX3_fromCell_10 (by decide) ?_
    refine lv_aload hx hb dX3_fromCell_17 (lv_at hl 0 rfl) ?_
    refine lv_iload_n hx hb dX3_fromCell_19 rfl (lv_at hl 4 rfl) ?_
    refine og_ciP (og_runVN (C := RX0) (T := TX0) (N := 7) (g := 1) (i := 0) (As := [.int x3]) (rest := []) ⟨hx, hb, hml, hown, hts⟩ (kX0_codeOf l D ca ad A st 0 (by decide) x3) ⟨va_cnB 1 hts gX3_fromCell_X0_codeOf_n90 rfl rfl rfl (hC.2.2.1 _ ln_X3_fromCell_0_0) (hts _ lk_X3_fromCell_0_1) (by decide +kernel) ⟨Nat.le_of_ble_eq_true rfl, Nat.le_of_ble_eq_true rfl⟩, (hts _ lk_X3_fromCell_0_2), (hts _ lk_X3_fromCell_0_3)⟩ hC hP hS (ow_q1_0) rfl rfl rfl hl.1 rfl (Nat.le_of_ble_eq_true rfl) dX3_fromCell_20 ⟨Nat.zero_le _, Nat.zero_le _⟩) hS (fun H locs hP hS => ?_)
    exact W.iret (v := (fX0_codeOf st 0 x3)) hx hb hr (fun t ht hW => ⟨⟨(fX0_codeOf st 0 x3), st, rfl, ⟨(by simp only [fX3_fromCell_0, if_pos c_1]), rfl⟩, ow_Bi ht hP⟩, hS.F ht⟩) hS.2.2 dX3_fromCell_23
  · by_cases c_2 : x2 = 2
    · refine og_cqS (q := ad 1 2) (og_runV (C := RX3) (T := TX3) (N := 14) (g := 0) (i := 0) (As := [.ref (ad 6 0), .int x2]) (rest := []) ⟨hx, hb, hml, hown, hts⟩ (kX3_kindOfItem_0 l D ca ad A st x2) (cwV 2 hts gX3_fromCell_X3_kindOfItem rfl rfl rfl (by decide +kernel) ⟨Nat.le_of_ble_eq_true rfl, Nat.le_of_ble_eq_true rfl⟩) hC hP hS (ow_q0_0) rfl rfl rfl hl.1 rfl (Nat.le_of_ble_eq_true rfl) dX3_fromCell_3 ⟨Nat.zero_le _, Nat.zero_le _⟩) hS (by simp only [fX3_kindOfItem_0, if_neg c_1, if_pos c_2]) (fun H locs hP hS => ?_)
      refine lv_astore (lv' := [(4, .ref (ad 1 2)), (0, .ref (ad 0 0)), (1, .ref (ad 6 0)), (2, .int x2), (3, .int x3)]) hx hb dX3_fromCell_6 hl (by decide) rfl (fun ls hl => ?_)
      refine lv_aload hx hb dX3_fromCell_8 (lv_at hl 0 rfl) ?_
      refine lv_ifnonnull (tgt := 17) hx hb dX3_fromCell_10 (by decide) ?_
      refine lv_aload hx hb dX3_fromCell_17 (lv_at hl 0 rfl) ?_
      refine lv_iload_n hx hb dX3_fromCell_19 rfl (lv_at hl 4 rfl) ?_
      refine og_ciP (og_runVN (C := RX0) (T := TX0) (N := 7) (g := 1) (i := 2) (As := [.int x3]) (rest := []) ⟨hx, hb, hml, hown, hts⟩ (kX0_codeOf l D ca ad A st 2 (by decide) x3) ⟨va_cnB 1 hts gX3_fromCell_X0_codeOf_n90 rfl rfl rfl (hC.2.2.1 _ ln_X3_fromCell_0_0) (hts _ lk_X3_fromCell_0_1) (by decide +kernel) ⟨Nat.le_of_ble_eq_true rfl, Nat.le_of_ble_eq_true rfl⟩, (hts _ lk_X3_fromCell_0_2), (hts _ lk_X3_fromCell_0_3)⟩ hC hP hS (ow_q1_2) rfl rfl rfl hl.1 rfl (Nat.le_of_ble_eq_true rfl) dX3_fromCell_20 ⟨Nat.zero_le _, Nat.zero_le _⟩) hS (fun H locs hP hS => ?_)
      exact W.iret (v := (fX0_codeOf st 2 x3)) hx hb hr (fun t ht hW => ⟨⟨(fX0_codeOf st 2 x3), st, rfl, ⟨(by simp only [fX3_fromCell_0, if_neg c_1, if_pos c_2]), rfl⟩, ow_Bi ht hP⟩, hS.F ht⟩) hS.2.2 dX3_fromCell_23
    · refine og_cqN (og_runV (C := RX3) (T := TX3) (N := 14) (g := 0) (i := 0) (As := [.ref (ad 6 0), .int x2]) (rest := []) ⟨hx, hb, hml, hown, hts⟩ (kX3_kindOfItem_0 l D ca ad A st x2) (cwV 2 hts gX3_fromCell_X3_kindOfItem rfl rfl rfl (by decide +kernel) ⟨Nat.le_of_ble_eq_true rfl, Nat.le_of_ble_eq_true rfl⟩) hC hP hS (ow_q0_0) rfl rfl rfl hl.1 rfl (Nat.le_of_ble_eq_true rfl) dX3_fromCell_3 ⟨Nat.zero_le _, Nat.zero_le _⟩) hS (by simp only [fX3_kindOfItem_0, if_neg c_1, if_neg c_2]) (fun H locs hP hS => ?_)
      refine lv_astoreN (lv' := [(4, .null), (0, .ref (ad 0 0)), (1, .ref (ad 6 0)), (2, .int x2), (3, .int x3)]) hx hb dX3_fromCell_6 hl (by decide) rfl (fun ls hl => ?_)
      refine lv_aloadN hx hb dX3_fromCell_8 (lv_at hl 0 rfl) ?_
      refine lv_ifnonnullN hx hb dX3_fromCell_10 ?_
      refine lv_iload_n hx hb dX3_fromCell_13 rfl (lv_at hl 4 rfl) ?_
      refine lv_goto (tgt := 23) hx hb dX3_fromCell_14 (by decide) ?_
      exact W.iret (v := x3) hx hb hr (fun t ht hW => ⟨⟨x3, st, rfl, ⟨(by simp only [fX3_fromCell_0, if_neg c_1, if_neg c_2]), rfl⟩, ow_Bi ht hP⟩, hS.F ht⟩) hS.2.2 dX3_fromCell_23

theorem ln_X3_highestOf_0_0 : (.fieldLinkNest RX3 153 "RecordLabels$Kind" "size" "I" "RecordLabels" : Cond) ∈ ow_nest := by decide +kernel
theorem li_X3_highestOf_0_X0 : ∀ w ∈ u_ws RX0 TX0 7, w ∈ wsX3_highestOf := by decide +kernel
theorem ln_X3_highestOf_0_2 : (.fieldLinkNest RX3 206 "RecordLabels$Table" "measure" "I" "RecordLabels" : Cond) ∈ ow_nest := by decide +kernel
theorem li_X3_highestOf_0_X2 : ∀ w ∈ u_ws RX2 TX2 5, w ∈ wsX3_highestOf := by decide +kernel
theorem li_X3_highestOf_0_X3 : ∀ w ∈ u_ws RX3 TX3 14, w ∈ wsX3_highestOf := by decide +kernel
theorem lk_X3_highestOf_0_5 : (.fieldLink RX3 45 "RecordLabels" "nodeTable" "LRecordLabels$Table;" : Cond) ∈ wsX3_highestOf := by decide +kernel
theorem ln_X3_highestOf_0_6 : (.fieldLinkNest RX3 162 "RecordLabels$Table" "size" "I" "RecordLabels" : Cond) ∈ ow_nest := by decide +kernel
def fX3_highestOf_0 (st : ow_St) (x2 : Int32) : Int32 := (if x2 = 0 then 4 else (if x2 = 2 then 25 else (if x2 = 1 then 1000 else ((st.1 4 0) - 1))))
set_option maxHeartbeats 4000000 in
set_option maxRecDepth 100000 in
theorem kX3_highestOf_0 (l : Launch) (D : va_G) (ca : Nat → ClassId) (ad : ow_Ad) (A : Nat → Prop) (st : ow_St) (x2 : Int32) : Met l yX3_highestOf wsX3_highestOf ({ frames := 1, cells := 0, slots := 0, locals := 22 }) (va_Pc [.ref (ad 0 0), .ref (ad 6 0), .int x2] (ow_W D ca ad A st)) (va_Qi (fun r st' => r = (fX3_highestOf_0 st x2) ∧ st' = st) (ow_B D ca ad) A) 0 0 A := by
  refine Met.ofW (cc := cX3_highestOf) (maxL := 4) (ret := (some .int)) (by decide) rfl ?_
  intro p e s m args below meth c s₁ B hml hv
  obtain ⟨rfl, hP, hC⟩ := hv
  have hx := B.exec
  have hb := B.bytes
  have hr := B.returns
  have hts := atoms_spec (ws := wsX3_highestOf) B.pre
  have hown : s.vm.findClass RX3 = some m.cls := findClass_of_methodNamed B.named
  have hlocks := B.notSynchronized
  have hS : va_S A s.heap s.heap [] := va_S.rf
  have hl := lv_entry ([.ref (ad 0 0), .ref (ad 6 0), .int x2]) (n := 4) (Nat.le_of_ble_eq_true rfl)
  rw [lg_entry_eq]
  generalize (lg_sl ([.ref (ad 0 0), .ref (ad 6 0), .int x2]) ++ List.replicate (4 - (lg_sl ([.ref (ad 0 0), .ref (ad 6 0), .int x2])).length) Slot.unset).toArray = ls at hl ⊢
  have hl : lv_has ls 4 [(0, .ref (ad 0 0)), (1, .ref (ad 6 0)), (2, .int x2)] := hl
  refine lv_aload_n hx hb dX3_highestOf_0 rfl (lv_at hl 0 rfl) ?_
  refine lv_aload_n hx hb dX3_highestOf_1 rfl (lv_at hl 1 rfl) ?_
  refine lv_iload_n hx hb dX3_highestOf_2 rfl (lv_at hl 2 rfl) ?_
  by_cases c_1 : x2 = 0
  · refine og_cqS (q := ad 1 0) (og_runV (C := RX3) (T := TX3) (N := 14) (g := 0) (i := 0) (As := [.ref (ad 6 0), .int x2]) (rest := []) ⟨hx, hb, hml, hown, hts⟩ (kX3_kindOfItem_0 l D ca ad A st x2) (cwV 2 hts gX3_highestOf_X3_kindOfItem rfl rfl rfl (by decide +kernel) ⟨Nat.le_of_ble_eq_true rfl, Nat.le_of_ble_eq_true rfl⟩) hC hP hS (ow_q0_0) rfl rfl rfl hl.1 rfl (Nat.le_of_ble_eq_true rfl) dX3_highestOf_3 ⟨Nat.zero_le _, Nat.zero_le _⟩) hS (by simp only [fX3_kindOfItem_0, if_pos c_1]) (fun H locs hP hS => ?_)
    refine lv_astore_n (lv' := [(3, .ref (ad 1 0)), (0, .ref (ad 0 0)), (1, .ref (ad 6 0)), (2, .int x2)]) hx hb dX3_highestOf_6 rfl hl (by decide) rfl (fun ls hl => ?_)
    refine lv_aload_n hx hb dX3_highestOf_7 rfl (lv_at hl 0 rfl) ?_
    refine lv_ifnull hx hb dX3_highestOf_8 ?_
    refine lv_aload_n hx hb dX3_highestOf_11 rfl (lv_at hl 0 rfl) ?_
    refine og_getN (C := RX0) (T := TX0) (N := 7) (g := 1) (i := 0) (v := .int 5) hx hb hts li_X3_highestOf_0_X0 hown hC hP (ow_q1_0) rfl rfl 2 (by decide) ln_X3_highestOf_0_0 rfl rfl dX3_highestOf_12 ?_
    refine lv_iconst (v := 1) hx hb dX3_highestOf_15 (by decide) ?_
    refine lv_isub hx hb dX3_highestOf_16 ?_
    rw [show (5 : Int32) - 1 = (4 : Int32) from rfl]
    exact W.iret (v := 4) hx hb hr (fun t ht hW => ⟨⟨4, st, rfl, ⟨(by simp only [fX3_highestOf_0, if_pos c_1]), rfl⟩, ow_Bi ht hP⟩, hS.F ht⟩) hS.2.2 dX3_highestOf_17
  · by_cases c_2 : x2 = 2
    · refine og_cqS (q := ad 1 2) (og_runV (C := RX3) (T := TX3) (N := 14) (g := 0) (i := 0) (As := [.ref (ad 6 0), .int x2]) (rest := []) ⟨hx, hb, hml, hown, hts⟩ (kX3_kindOfItem_0 l D ca ad A st x2) (cwV 2 hts gX3_highestOf_X3_kindOfItem rfl rfl rfl (by decide +kernel) ⟨Nat.le_of_ble_eq_true rfl, Nat.le_of_ble_eq_true rfl⟩) hC hP hS (ow_q0_0) rfl rfl rfl hl.1 rfl (Nat.le_of_ble_eq_true rfl) dX3_highestOf_3 ⟨Nat.zero_le _, Nat.zero_le _⟩) hS (by simp only [fX3_kindOfItem_0, if_neg c_1, if_pos c_2]) (fun H locs hP hS => ?_)
      refine lv_astore_n (lv' := [(3, .ref (ad 1 2)), (0, .ref (ad 0 0)), (1, .ref (ad 6 0)), (2, .int x2)]) hx hb dX3_highestOf_6 rfl hl (by decide) rfl (fun ls hl => ?_)
      refine lv_aload_n hx hb dX3_highestOf_7 rfl (lv_at hl 0 rfl) ?_
      refine lv_ifnull hx hb dX3_highestOf_8 ?_
      refine lv_aload_n hx hb dX3_highestOf_11 rfl (lv_at hl 0 rfl) ?_
      refine og_getN (C := RX0) (T := TX0) (N := 7) (g := 1) (i := 2) (v := .int 26) hx hb hts li_X3_highestOf_0_X0 hown hC hP (ow_q1_2) rfl rfl 2 (by decide) ln_X3_highestOf_0_0 rfl rfl dX3_highestOf_12 ?_
      refine lv_iconst (v := 1) hx hb dX3_highestOf_15 (by decide) ?_
      refine lv_isub hx hb dX3_highestOf_16 ?_
      rw [show (26 : Int32) - 1 = (25 : Int32) from rfl]
      exact W.iret (v := 25) hx hb hr (fun t ht hW => ⟨⟨25, st, rfl, ⟨(by simp only [fX3_highestOf_0, if_neg c_1, if_pos c_2]), rfl⟩, ow_Bi ht hP⟩, hS.F ht⟩) hS.2.2 dX3_highestOf_17
    · refine og_cqN (og_runV (C := RX3) (T := TX3) (N := 14) (g := 0) (i := 0) (As := [.ref (ad 6 0), .int x2]) (rest := []) ⟨hx, hb, hml, hown, hts⟩ (kX3_kindOfItem_0 l D ca ad A st x2) (cwV 2 hts gX3_highestOf_X3_kindOfItem rfl rfl rfl (by decide +kernel) ⟨Nat.le_of_ble_eq_true rfl, Nat.le_of_ble_eq_true rfl⟩) hC hP hS (ow_q0_0) rfl rfl rfl hl.1 rfl (Nat.le_of_ble_eq_true rfl) dX3_highestOf_3 ⟨Nat.zero_le _, Nat.zero_le _⟩) hS (by simp only [fX3_kindOfItem_0, if_neg c_1, if_neg c_2]) (fun H locs hP hS => ?_)
      refine lv_astore_nN (lv' := [(3, .null), (0, .ref (ad 0 0)), (1, .ref (ad 6 0)), (2, .int x2)]) hx hb dX3_highestOf_6 rfl hl (by decide) rfl (fun ls hl => ?_)
      refine lv_aload_nN hx hb dX3_highestOf_7 rfl (lv_at hl 0 rfl) ?_
      refine lv_ifnullN (tgt := 18) hx hb dX3_highestOf_8 (by decide) ?_
      refine lv_iload_n hx hb dX3_highestOf_18 rfl (lv_at hl 3 rfl) ?_
      refine lv_aload_n hx hb dX3_highestOf_19 rfl (lv_at hl 2 rfl) ?_
      refine og_getN (C := RX2) (T := TX2) (N := 5) (g := 6) (i := 0) (v := .int 1) hx hb hts li_X3_highestOf_0_X2 hown hC hP (ow_q6_0) rfl rfl 2 (by decide) ln_X3_highestOf_0_2 rfl rfl dX3_highestOf_20 ?_
      refine lv_icmp_ne (tgt := 43) hx hb dX3_highestOf_23 (by decide) (fun c_3 => ?_) (fun c_3 => ?_)
      · refine lv_aload_n hx hb dX3_highestOf_43 rfl (lv_at hl 1 rfl) ?_
        refine og_get (C := RX3) (T := TX3) (N := 14) (g := 0) (i := 0) (v := .ref (ad 6 0)) hx hb hts li_X3_highestOf_0_X3 hown hC hP (ow_q0_0) rfl rfl 4 (by decide) (hts _ lk_X3_highestOf_0_5) rfl rfl dX3_highestOf_44 ?_
        refine og_getN (C := RX2) (T := TX2) (N := 5) (g := 6) (i := 0) (v := .int (st.1 4 0)) hx hb hts li_X3_highestOf_0_X2 hown hC hP (ow_q6_0) rfl rfl 4 (by decide) ln_X3_highestOf_0_6 rfl rfl dX3_highestOf_47 ?_
        refine lv_iconst (v := 1) hx hb dX3_highestOf_50 (by decide) ?_
        refine lv_isub hx hb dX3_highestOf_51 ?_
        exact W.iret (v := ((st.1 4 0) - 1)) hx hb hr (fun t ht hW => ⟨⟨((st.1 4 0) - 1), st, rfl, ⟨(by simp only [fX3_highestOf_0, if_neg c_1, if_neg c_2, if_neg c_3]), rfl⟩, ow_Bi ht hP⟩, hS.F ht⟩) hS.2.2 dX3_highestOf_52
      · refine lv_aload_n hx hb dX3_highestOf_26 rfl (lv_at hl 2 rfl) ?_
        refine lv_aload_n hx hb dX3_highestOf_27 rfl (lv_at hl 1 rfl) ?_
        refine og_get (C := RX3) (T := TX3) (N := 14) (g := 0) (i := 0) (v := .ref (ad 6 0)) hx hb hts li_X3_highestOf_0_X3 hown hC hP (ow_q0_0) rfl rfl 4 (by decide) (hts _ lk_X3_highestOf_0_5) rfl rfl dX3_highestOf_28 ?_
        refine lv_acmp_ne (rx := some (ad 6 0)) (ry := some (ad 6 0)) (tgt := 40) hx hb dX3_highestOf_31 (by decide) (fun c => absurd rfl c) (fun _ => ?_)
        refine lv_sipush (v := 1000) hx hb dX3_highestOf_34 (by decide) ?_
        refine lv_goto (tgt := 42) hx hb dX3_highestOf_37 (by decide) ?_
        exact W.iret (v := 1000) hx hb hr (fun t ht hW => ⟨⟨1000, st, rfl, ⟨(by simp only [fX3_highestOf_0, if_neg c_1, if_neg c_2, if_pos c_3]), rfl⟩, ow_Bi ht hP⟩, hS.F ht⟩) hS.2.2 dX3_highestOf_42

theorem ln_X3_wrongItem_0_0 : (.fieldLinkNest RX3 171 "RecordLabels$Table" "items" "I" "RecordLabels" : Cond) ∈ ow_nest := by decide +kernel
theorem li_X3_wrongItem_0_X2 : ∀ w ∈ u_ws RX2 TX2 5, w ∈ wsX3_wrongItem := by decide +kernel
theorem li_X3_wrongItem_0_X3 : ∀ w ∈ u_ws RX3 TX3 14, w ∈ wsX3_wrongItem := by decide +kernel
theorem lk_X3_wrongItem_0_3 : (.fieldLink RX3 63 "RecordLabels" "draft" "[I" : Cond) ∈ wsX3_wrongItem := by decide +kernel
theorem lk_X3_wrongItem_0_4 : (.fieldLink RX3 49 "RecordLabels" "arcTable" "LRecordLabels$Table;" : Cond) ∈ wsX3_wrongItem := by decide +kernel
def fX3_wrongItem_0 (st : ow_St) : Int32 := (if (fX3_isFromTo st (st.1 103 0) 0 (fX3_highestOf_0 st 0)) = 0 then 0 else (if (fX3_isFromTo st (st.1 103 1) 0 (fX3_highestOf_0 st 1)) = 0 then 1 else (if (fX3_isFromTo st (st.1 103 2) 0 (fX3_highestOf_0 st 2)) = 0 then 2 else (-1))))
set_option maxHeartbeats 4000000 in
set_option maxRecDepth 100000 in
theorem kX3_wrongItem_0 (l : Launch) (D : va_G) (ca : Nat → ClassId) (ad : ow_Ad) (A : Nat → Prop) (st : ow_St)  : Met l yX3_wrongItem wsX3_wrongItem ({ frames := 2, cells := 0, slots := 0, locals := 45 }) (va_Pc [.ref (ad 0 0), .ref (ad 6 0)] (ow_W D ca ad A st)) (va_Qi (fun r st' => r = (fX3_wrongItem_0 st) ∧ st' = st) (ow_B D ca ad) A) 0 0 A := by
  refine Met.ofW (cc := cX3_wrongItem) (maxL := 3) (ret := (some .int)) (by decide) rfl ?_
  intro p e s m args below meth c s₁ B hml hv
  obtain ⟨rfl, hP, hC⟩ := hv
  have hx := B.exec
  have hb := B.bytes
  have hr := B.returns
  have hts := atoms_spec (ws := wsX3_wrongItem) B.pre
  have hown : s.vm.findClass RX3 = some m.cls := findClass_of_methodNamed B.named
  have hlocks := B.notSynchronized
  have hS : va_S A s.heap s.heap [] := va_S.rf
  have hl := lv_entry ([.ref (ad 0 0), .ref (ad 6 0)]) (n := 3) (Nat.le_of_ble_eq_true rfl)
  rw [lg_entry_eq]
  generalize (lg_sl ([.ref (ad 0 0), .ref (ad 6 0)]) ++ List.replicate (3 - (lg_sl ([.ref (ad 0 0), .ref (ad 6 0)])).length) Slot.unset).toArray = ls at hl ⊢
  have hl : lv_has ls 3 [(0, .ref (ad 0 0)), (1, .ref (ad 6 0))] := hl
  refine lv_iconst (v := 0) hx hb dX3_wrongItem_0 (by decide) ?_
  refine lv_istore_n (lv' := [(2, .int 0), (0, .ref (ad 0 0)), (1, .ref (ad 6 0))]) hx hb dX3_wrongItem_1 rfl hl (by decide) rfl (fun ls hl => ?_)
  refine lv_iload_n hx hb dX3_wrongItem_2 rfl (lv_at hl 0 rfl) ?_
  refine lv_aload_n hx hb dX3_wrongItem_3 rfl (lv_at hl 2 rfl) ?_
  refine og_getN (C := RX2) (T := TX2) (N := 5) (g := 6) (i := 0) (v := .int 3) hx hb hts li_X3_wrongItem_0_X2 hown hC hP (ow_q6_0) rfl rfl 1 (by decide) ln_X3_wrongItem_0_0 rfl rfl dX3_wrongItem_4 ?_
  refine lv_icmp_ge (tgt := 37) hx hb dX3_wrongItem_7 (by decide) (fun c => absurd c (by decide)) (fun _ => ?_)
  refine lv_aload_n hx hb dX3_wrongItem_10 rfl (lv_at hl 1 rfl) ?_
  refine og_get (C := RX3) (T := TX3) (N := 14) (g := 0) (i := 0) (v := .ref (ad 9 0)) hx hb hts li_X3_wrongItem_0_X3 hown hC hP (ow_q0_0) rfl rfl 9 (by decide) (hts _ lk_X3_wrongItem_0_3) rfl rfl dX3_wrongItem_11 ?_
  refine lv_iload_n hx hb dX3_wrongItem_14 rfl (lv_at hl 0 rfl) ?_
  refine og_iald (g := 9) (i := 0) (j := 0) (v := (st.1 103 0)) hx hb hC hP (ow_q9_0) rfl (by unfold vp_in; decide) rfl rfl dX3_wrongItem_15 ?_
  refine lv_iconst (v := 0) hx hb dX3_wrongItem_16 (by decide) ?_
  refine lv_aload_n hx hb dX3_wrongItem_17 rfl (lv_at hl 1 rfl) ?_
  refine lv_aload_n hx hb dX3_wrongItem_18 rfl (lv_at hl 2 rfl) ?_
  refine lv_iload_n hx hb dX3_wrongItem_19 rfl (lv_at hl 0 rfl) ?_
  refine og_ciP (og_runV (C := RX3) (T := TX3) (N := 14) (g := 0) (i := 0) (As := [.ref (ad 6 0), .int 0]) (rest := [.int 0, .int (st.1 103 0)]) ⟨hx, hb, hml, hown, hts⟩ (kX3_highestOf_0 l D ca ad A st 0) (cwV 2 hts gX3_wrongItem_X3_highestOf rfl rfl rfl (by decide +kernel) ⟨Nat.le_of_ble_eq_true rfl, Nat.le_of_ble_eq_true rfl⟩) hC hP hS (ow_q0_0) rfl rfl rfl hl.1 rfl (Nat.le_of_ble_eq_true rfl) dX3_wrongItem_20 ⟨Nat.zero_le _, Nat.zero_le _⟩) hS (fun H locs hP hS => ?_)
  refine og_ciP (og_runS (As := [.int (st.1 103 0), .int 0, .int (fX3_highestOf_0 st 0)]) (rest := []) ⟨hx, hb, hml, hown, hts⟩ (kX3_isFromTo l D ca ad A st (st.1 103 0) 0 (fX3_highestOf_0 st 0)) (va_cwS 3 hts gX3_wrongItem_X3_isFromTo rfl rfl rfl (by decide +kernel) ⟨Nat.le_of_ble_eq_true rfl, Nat.le_of_ble_eq_true rfl⟩) hC hP hS rfl hl.1 rfl (Nat.le_of_ble_eq_true rfl) dX3_wrongItem_23 ⟨Nat.zero_le _, Nat.zero_le _⟩) hS (fun H locs hP hS => ?_)
  refine lv_if_ne (tgt := 31) hx hb dX3_wrongItem_26 (by decide) (fun c_1 => ?_) (fun c_1 => ?_)
  · refine lv_iinc (v := 1) (lv' := [(2, .int 1), (0, .ref (ad 0 0)), (1, .ref (ad 6 0))]) hx hb dX3_wrongItem_31 hl (k := 0) rfl (by decide) (by decide) rfl (fun ls hl => ?_)
    refine lv_goto (tgt := 2) hx hb dX3_wrongItem_34 (by decide) ?_
    refine lv_iload_n hx hb dX3_wrongItem_2 rfl (lv_at hl 0 rfl) ?_
    refine lv_aload_n hx hb dX3_wrongItem_3 rfl (lv_at hl 2 rfl) ?_
    refine og_getN (C := RX2) (T := TX2) (N := 5) (g := 6) (i := 0) (v := .int 3) hx hb hts li_X3_wrongItem_0_X2 hown hC hP (ow_q6_0) rfl rfl 1 (by decide) ln_X3_wrongItem_0_0 rfl rfl dX3_wrongItem_4 ?_
    refine lv_icmp_ge (tgt := 37) hx hb dX3_wrongItem_7 (by decide) (fun c => absurd c (by decide)) (fun _ => ?_)
    refine lv_aload_n hx hb dX3_wrongItem_10 rfl (lv_at hl 1 rfl) ?_
    refine og_get (C := RX3) (T := TX3) (N := 14) (g := 0) (i := 0) (v := .ref (ad 9 0)) hx hb hts li_X3_wrongItem_0_X3 hown hC hP (ow_q0_0) rfl rfl 9 (by decide) (hts _ lk_X3_wrongItem_0_3) rfl rfl dX3_wrongItem_11 ?_
    refine lv_iload_n hx hb dX3_wrongItem_14 rfl (lv_at hl 0 rfl) ?_
    refine og_iald (g := 9) (i := 0) (j := 1) (v := (st.1 103 1)) hx hb hC hP (ow_q9_0) rfl (by unfold vp_in; decide) rfl rfl dX3_wrongItem_15 ?_
    refine lv_iconst (v := 0) hx hb dX3_wrongItem_16 (by decide) ?_
    refine lv_aload_n hx hb dX3_wrongItem_17 rfl (lv_at hl 1 rfl) ?_
    refine lv_aload_n hx hb dX3_wrongItem_18 rfl (lv_at hl 2 rfl) ?_
    refine lv_iload_n hx hb dX3_wrongItem_19 rfl (lv_at hl 0 rfl) ?_
    refine og_ciP (og_runV (C := RX3) (T := TX3) (N := 14) (g := 0) (i := 0) (As := [.ref (ad 6 0), .int 1]) (rest := [.int 0, .int (st.1 103 1)]) ⟨hx, hb, hml, hown, hts⟩ (kX3_highestOf_0 l D ca ad A st 1) (cwV 2 hts gX3_wrongItem_X3_highestOf rfl rfl rfl (by decide +kernel) ⟨Nat.le_of_ble_eq_true rfl, Nat.le_of_ble_eq_true rfl⟩) hC hP hS (ow_q0_0) rfl rfl rfl hl.1 rfl (Nat.le_of_ble_eq_true rfl) dX3_wrongItem_20 ⟨Nat.zero_le _, Nat.zero_le _⟩) hS (fun H locs hP hS => ?_)
    refine og_ciP (og_runS (As := [.int (st.1 103 1), .int 0, .int (fX3_highestOf_0 st 1)]) (rest := []) ⟨hx, hb, hml, hown, hts⟩ (kX3_isFromTo l D ca ad A st (st.1 103 1) 0 (fX3_highestOf_0 st 1)) (va_cwS 3 hts gX3_wrongItem_X3_isFromTo rfl rfl rfl (by decide +kernel) ⟨Nat.le_of_ble_eq_true rfl, Nat.le_of_ble_eq_true rfl⟩) hC hP hS rfl hl.1 rfl (Nat.le_of_ble_eq_true rfl) dX3_wrongItem_23 ⟨Nat.zero_le _, Nat.zero_le _⟩) hS (fun H locs hP hS => ?_)
    refine lv_if_ne (tgt := 31) hx hb dX3_wrongItem_26 (by decide) (fun c_2 => ?_) (fun c_2 => ?_)
    · refine lv_iinc (v := 2) (lv' := [(2, .int 2), (0, .ref (ad 0 0)), (1, .ref (ad 6 0))]) hx hb dX3_wrongItem_31 hl (k := 0) rfl (by decide) (by decide) rfl (fun ls hl => ?_)
      refine lv_goto (tgt := 2) hx hb dX3_wrongItem_34 (by decide) ?_
      refine lv_iload_n hx hb dX3_wrongItem_2 rfl (lv_at hl 0 rfl) ?_
      refine lv_aload_n hx hb dX3_wrongItem_3 rfl (lv_at hl 2 rfl) ?_
      refine og_getN (C := RX2) (T := TX2) (N := 5) (g := 6) (i := 0) (v := .int 3) hx hb hts li_X3_wrongItem_0_X2 hown hC hP (ow_q6_0) rfl rfl 1 (by decide) ln_X3_wrongItem_0_0 rfl rfl dX3_wrongItem_4 ?_
      refine lv_icmp_ge (tgt := 37) hx hb dX3_wrongItem_7 (by decide) (fun c => absurd c (by decide)) (fun _ => ?_)
      refine lv_aload_n hx hb dX3_wrongItem_10 rfl (lv_at hl 1 rfl) ?_
      refine og_get (C := RX3) (T := TX3) (N := 14) (g := 0) (i := 0) (v := .ref (ad 9 0)) hx hb hts li_X3_wrongItem_0_X3 hown hC hP (ow_q0_0) rfl rfl 9 (by decide) (hts _ lk_X3_wrongItem_0_3) rfl rfl dX3_wrongItem_11 ?_
      refine lv_iload_n hx hb dX3_wrongItem_14 rfl (lv_at hl 0 rfl) ?_
      refine og_iald (g := 9) (i := 0) (j := 2) (v := (st.1 103 2)) hx hb hC hP (ow_q9_0) rfl (by unfold vp_in; decide) rfl rfl dX3_wrongItem_15 ?_
      refine lv_iconst (v := 0) hx hb dX3_wrongItem_16 (by decide) ?_
      refine lv_aload_n hx hb dX3_wrongItem_17 rfl (lv_at hl 1 rfl) ?_
      refine lv_aload_n hx hb dX3_wrongItem_18 rfl (lv_at hl 2 rfl) ?_
      refine lv_iload_n hx hb dX3_wrongItem_19 rfl (lv_at hl 0 rfl) ?_
      refine og_ciP (og_runV (C := RX3) (T := TX3) (N := 14) (g := 0) (i := 0) (As := [.ref (ad 6 0), .int 2]) (rest := [.int 0, .int (st.1 103 2)]) ⟨hx, hb, hml, hown, hts⟩ (kX3_highestOf_0 l D ca ad A st 2) (cwV 2 hts gX3_wrongItem_X3_highestOf rfl rfl rfl (by decide +kernel) ⟨Nat.le_of_ble_eq_true rfl, Nat.le_of_ble_eq_true rfl⟩) hC hP hS (ow_q0_0) rfl rfl rfl hl.1 rfl (Nat.le_of_ble_eq_true rfl) dX3_wrongItem_20 ⟨Nat.zero_le _, Nat.zero_le _⟩) hS (fun H locs hP hS => ?_)
      refine og_ciP (og_runS (As := [.int (st.1 103 2), .int 0, .int (fX3_highestOf_0 st 2)]) (rest := []) ⟨hx, hb, hml, hown, hts⟩ (kX3_isFromTo l D ca ad A st (st.1 103 2) 0 (fX3_highestOf_0 st 2)) (va_cwS 3 hts gX3_wrongItem_X3_isFromTo rfl rfl rfl (by decide +kernel) ⟨Nat.le_of_ble_eq_true rfl, Nat.le_of_ble_eq_true rfl⟩) hC hP hS rfl hl.1 rfl (Nat.le_of_ble_eq_true rfl) dX3_wrongItem_23 ⟨Nat.zero_le _, Nat.zero_le _⟩) hS (fun H locs hP hS => ?_)
      refine lv_if_ne (tgt := 31) hx hb dX3_wrongItem_26 (by decide) (fun c_3 => ?_) (fun c_3 => ?_)
      · refine lv_iinc (v := 3) (lv' := [(2, .int 3), (0, .ref (ad 0 0)), (1, .ref (ad 6 0))]) hx hb dX3_wrongItem_31 hl (k := 0) rfl (by decide) (by decide) rfl (fun ls hl => ?_)
        refine lv_goto (tgt := 2) hx hb dX3_wrongItem_34 (by decide) ?_
        refine lv_iload_n hx hb dX3_wrongItem_2 rfl (lv_at hl 0 rfl) ?_
        refine lv_aload_n hx hb dX3_wrongItem_3 rfl (lv_at hl 2 rfl) ?_
        refine og_getN (C := RX2) (T := TX2) (N := 5) (g := 6) (i := 0) (v := .int 3) hx hb hts li_X3_wrongItem_0_X2 hown hC hP (ow_q6_0) rfl rfl 1 (by decide) ln_X3_wrongItem_0_0 rfl rfl dX3_wrongItem_4 ?_
        refine lv_icmp_ge (tgt := 37) hx hb dX3_wrongItem_7 (by decide) (fun _ => ?_) (fun c => absurd (by decide) c)
        refine lv_aload_n hx hb dX3_wrongItem_37 rfl (lv_at hl 2 rfl) ?_
        refine lv_aload_n hx hb dX3_wrongItem_38 rfl (lv_at hl 1 rfl) ?_
        refine og_get (C := RX3) (T := TX3) (N := 14) (g := 0) (i := 0) (v := .ref (ad 6 1)) hx hb hts li_X3_wrongItem_0_X3 hown hC hP (ow_q0_0) rfl rfl 5 (by decide) (hts _ lk_X3_wrongItem_0_4) rfl rfl dX3_wrongItem_39 ?_
        refine lv_acmp_ne (rx := some (ad 6 0)) (ry := some (ad 6 1)) (tgt := 64) hx hb dX3_wrongItem_42 (by decide) (fun _ => ?_) (fun c => absurd c (fun h => absurd (ow_inj hC.2.1 (ow_q6_0) (ow_q6_1) (Option.some.inj h)).2 (by decide)))
        refine lv_iconst (v := (-1)) hx hb dX3_wrongItem_64 (by decide) ?_
        exact W.iret (v := (-1)) hx hb hr (fun t ht hW => ⟨⟨(-1), st, rfl, ⟨(by simp only [fX3_wrongItem_0, if_neg c_1, if_neg c_2, if_neg c_3]), rfl⟩, ow_Bi ht hP⟩, hS.F ht⟩) hS.2.2 dX3_wrongItem_65
      · refine lv_iload_n hx hb dX3_wrongItem_29 rfl (lv_at hl 0 rfl) ?_
        exact W.iret (v := 2) hx hb hr (fun t ht hW => ⟨⟨2, st, rfl, ⟨(by simp only [fX3_wrongItem_0, if_neg c_1, if_neg c_2, if_pos c_3]), rfl⟩, ow_Bi ht hP⟩, hS.F ht⟩) hS.2.2 dX3_wrongItem_30
    · refine lv_iload_n hx hb dX3_wrongItem_29 rfl (lv_at hl 0 rfl) ?_
      exact W.iret (v := 1) hx hb hr (fun t ht hW => ⟨⟨1, st, rfl, ⟨(by simp only [fX3_wrongItem_0, if_neg c_1, if_pos c_2]), rfl⟩, ow_Bi ht hP⟩, hS.F ht⟩) hS.2.2 dX3_wrongItem_30
  · refine lv_iload_n hx hb dX3_wrongItem_29 rfl (lv_at hl 0 rfl) ?_
    exact W.iret (v := 0) hx hb hr (fun t ht hW => ⟨⟨0, st, rfl, ⟨(by simp only [fX3_wrongItem_0, if_pos c_1]), rfl⟩, ow_Bi ht hP⟩, hS.F ht⟩) hS.2.2 dX3_wrongItem_30

theorem ln_X3_kindOfItem_1_0 : (.fieldLinkNest RX3 192 "RecordLabels$Table" "kind" "LRecordLabels$Kind;" "RecordLabels" : Cond) ∈ ow_nest := by decide +kernel
theorem li_X3_kindOfItem_1_X2 : ∀ w ∈ u_ws RX2 TX2 5, w ∈ wsX3_kindOfItem := by decide +kernel
theorem li_X3_kindOfItem_1_X3 : ∀ w ∈ u_ws RX3 TX3 14, w ∈ wsX3_kindOfItem := by decide +kernel
theorem lk_X3_kindOfItem_1_3 : (.fieldLink RX3 45 "RecordLabels" "nodeTable" "LRecordLabels$Table;" : Cond) ∈ wsX3_kindOfItem := by decide +kernel
def fX3_kindOfItem_1 (ad : ow_Ad) (st : ow_St) (x2 : Int32) : Option Nat := (if x2 = 0 then some (ad 1 1) else none)
set_option maxHeartbeats 4000000 in
set_option maxRecDepth 100000 in
theorem kX3_kindOfItem_1 (l : Launch) (D : va_G) (ca : Nat → ClassId) (ad : ow_Ad) (A : Nat → Prop) (st : ow_St) (x2 : Int32) : Met l yX3_kindOfItem wsX3_kindOfItem ({ frames := 0, cells := 0, slots := 0, locals := 0 }) (va_Pc [.ref (ad 0 0), .ref (ad 6 1), .int x2] (ow_W D ca ad A st)) (va_Qq (fun r st' => r = (fX3_kindOfItem_1 ad st x2) ∧ st' = st) (ow_B D ca ad) A) 0 0 A := by
  refine Met.ofW (cc := cX3_kindOfItem) (maxL := 3) (ret := (some (.object "RecordLabels$Kind"))) (by decide) rfl ?_
  intro p e s m args below meth c s₁ B hml hv
  obtain ⟨rfl, hP, hC⟩ := hv
  have hx := B.exec
  have hb := B.bytes
  have hr := B.returns
  have hts := atoms_spec (ws := wsX3_kindOfItem) B.pre
  have hown : s.vm.findClass RX3 = some m.cls := findClass_of_methodNamed B.named
  have hlocks := B.notSynchronized
  have hS : va_S A s.heap s.heap [] := va_S.rf
  have hl := lv_entry ([.ref (ad 0 0), .ref (ad 6 1), .int x2]) (n := 3) (Nat.le_of_ble_eq_true rfl)
  rw [lg_entry_eq]
  generalize (lg_sl ([.ref (ad 0 0), .ref (ad 6 1), .int x2]) ++ List.replicate (3 - (lg_sl ([.ref (ad 0 0), .ref (ad 6 1), .int x2])).length) Slot.unset).toArray = ls at hl ⊢
  have hl : lv_has ls 3 [(0, .ref (ad 0 0)), (1, .ref (ad 6 1)), (2, .int x2)] := hl
  refine lv_iload_n hx hb dX3_kindOfItem_0 rfl (lv_at hl 2 rfl) ?_
  refine lv_if_ne (tgt := 9) hx hb dX3_kindOfItem_1 (by decide) (fun c_1 => ?_) (fun c_1 => ?_)
  · refine lv_aload_n hx hb dX3_kindOfItem_9 rfl (lv_at hl 1 rfl) ?_
    refine lv_aload_n hx hb dX3_kindOfItem_10 rfl (lv_at hl 0 rfl) ?_
    refine og_get (C := RX3) (T := TX3) (N := 14) (g := 0) (i := 0) (v := .ref (ad 6 0)) hx hb hts li_X3_kindOfItem_1_X3 hown hC hP (ow_q0_0) rfl rfl 4 (by decide) (hts _ lk_X3_kindOfItem_1_3) rfl rfl dX3_kindOfItem_11 ?_
    refine lv_acmp_ne (rx := some (ad 6 1)) (ry := some (ad 6 0)) (tgt := 29) hx hb dX3_kindOfItem_14 (by decide) (fun _ => ?_) (fun c => absurd c (fun h => absurd (ow_inj hC.2.1 (ow_q6_1) (ow_q6_0) (Option.some.inj h)).2 (by decide)))
    refine lv_null hx hb dX3_kindOfItem_29 ?_
    exact W.aret (v := va_rf none) hx hb hr (Or.inl ⟨_, rfl⟩) (Or.inl rfl) (fun t ht hW => ⟨⟨none, st, rfl, ⟨(by simp only [fX3_kindOfItem_1, if_neg c_1]), rfl⟩, ow_Bi ht hP⟩, hS.F ht⟩) hS.2.2 dX3_kindOfItem_30
  · refine lv_aload_n hx hb dX3_kindOfItem_4 rfl (lv_at hl 1 rfl) ?_
    refine og_getN (C := RX2) (T := TX2) (N := 5) (g := 6) (i := 1) (v := .ref (ad 1 1)) hx hb hts li_X3_kindOfItem_1_X2 hown hC hP (ow_q6_1) rfl rfl 0 (by decide) ln_X3_kindOfItem_1_0 rfl rfl dX3_kindOfItem_5 ?_
    exact W.aret (v := va_rf (some (ad 1 1))) hx hb hr (Or.inl ⟨_, rfl⟩) (Or.inr ⟨_, rfl⟩) (fun t ht hW => ⟨⟨(some (ad 1 1)), st, rfl, ⟨(by simp only [fX3_kindOfItem_1, if_pos c_1]), rfl⟩, ow_Bi ht hP⟩, hS.F ht⟩) hS.2.2 dX3_kindOfItem_8

theorem ln_X3_toCell_1_0 : (.methodLinkNest RX3 94 yX0_constantOf "RecordLabels" : Cond) ∈ ow_nest := by decide +kernel
theorem lk_X3_toCell_1_1 : (.initialized RX0 : Cond) ∈ wsX3_toCell := by decide +kernel
theorem lk_X3_toCell_1_2 : (.instanceMethod yX0_constantOf : Cond) ∈ wsX3_toCell := by decide +kernel
theorem lk_X3_toCell_1_3 : (.selects RX0 yX0_constantOf yX0_constantOf : Cond) ∈ wsX3_toCell := by decide +kernel
def fX3_toCell_1 (st : ow_St) (x2 x3 : Int32) : Int32 := (if x2 = 0 then (fX0_constantOf st 1 x3) else x3)
set_option maxHeartbeats 4000000 in
set_option maxRecDepth 100000 in
theorem kX3_toCell_1 (l : Launch) (D : va_G) (ca : Nat → ClassId) (ad : ow_Ad) (A : Nat → Prop) (st : ow_St) (x2 : Int32) (x3 : Int32) : Met l yX3_toCell wsX3_toCell ({ frames := 2, cells := 0, slots := 0, locals := 42 }) (va_Pc [.ref (ad 0 0), .ref (ad 6 1), .int x2, .int x3] (ow_W D ca ad A st)) (va_Qi (fun r st' => r = (fX3_toCell_1 st x2 x3) ∧ st' = st) (ow_B D ca ad) A) 0 0 A := by
  refine Met.ofW (cc := cX3_toCell) (maxL := 5) (ret := (some .int)) (by decide) rfl ?_
  intro p e s m args below meth c s₁ B hml hv
  obtain ⟨rfl, hP, hC⟩ := hv
  have hx := B.exec
  have hb := B.bytes
  have hr := B.returns
  have hts := atoms_spec (ws := wsX3_toCell) B.pre
  have hown : s.vm.findClass RX3 = some m.cls := findClass_of_methodNamed B.named
  have hlocks := B.notSynchronized
  have hS : va_S A s.heap s.heap [] := va_S.rf
  have hl := lv_entry ([.ref (ad 0 0), .ref (ad 6 1), .int x2, .int x3]) (n := 5) (Nat.le_of_ble_eq_true rfl)
  rw [lg_entry_eq]
  generalize (lg_sl ([.ref (ad 0 0), .ref (ad 6 1), .int x2, .int x3]) ++ List.replicate (5 - (lg_sl ([.ref (ad 0 0), .ref (ad 6 1), .int x2, .int x3])).length) Slot.unset).toArray = ls at hl ⊢
  have hl : lv_has ls 5 [(0, .ref (ad 0 0)), (1, .ref (ad 6 1)), (2, .int x2), (3, .int x3)] := hl
  refine lv_aload_n hx hb dX3_toCell_0 rfl (lv_at hl 0 rfl) ?_
  refine lv_aload_n hx hb dX3_toCell_1 rfl (lv_at hl 1 rfl) ?_
  refine lv_iload_n hx hb dX3_toCell_2 rfl (lv_at hl 2 rfl) ?_
  by_cases c_1 : x2 = 0
  · refine og_cqS (q := ad 1 1) (og_runV (C := RX3) (T := TX3) (N := 14) (g := 0) (i := 0) (As := [.ref (ad 6 1), .int x2]) (rest := []) ⟨hx, hb, hml, hown, hts⟩ (kX3_kindOfItem_1 l D ca ad A st x2) (cwV 2 hts gX3_toCell_X3_kindOfItem rfl rfl rfl (by decide +kernel) ⟨Nat.le_of_ble_eq_true rfl, Nat.le_of_ble_eq_true rfl⟩) hC hP hS (ow_q0_0) rfl rfl rfl hl.1 rfl (Nat.le_of_ble_eq_true rfl) dX3_toCell_3 ⟨Nat.zero_le _, Nat.zero_le _⟩) hS (by simp only [fX3_kindOfItem_1, if_pos c_1]) (fun H locs hP hS => ?_)
    refine lv_astore (lv' := [(4, .ref (ad 1 1)), (0, .ref (ad 0 0)), (1, .ref (ad 6 1)), (2, .int x2), (3, .int x3)]) hx hb dX3_toCell_6 hl (by decide) rfl (fun ls hl => ?_)
    refine lv_aload hx hb dX3_toCell_8 (lv_at hl 0 rfl) ?_
    refine lv_ifnonnull (tgt := 17) hx hb dX3_toCell_10 (by decide) ?_
    refine lv_aload hx hb dX3_toCell_17 (lv_at hl 0 rfl) ?_
    refine lv_iload_n hx hb dX3_toCell_19 rfl (lv_at hl 4 rfl) ?_
    refine og_ciP (og_runVN (C := RX0) (T := TX0) (N := 7) (g := 1) (i := 1) (As := [.int x3]) (rest := []) ⟨hx, hb, hml, hown, hts⟩ (kX0_constantOf l D ca ad A st 1 (by decide) x3) ⟨va_cnB 1 hts gX3_toCell_X0_constantOf_n94 rfl rfl rfl (hC.2.2.1 _ ln_X3_toCell_1_0) (hts _ lk_X3_toCell_1_1) (by decide +kernel) ⟨Nat.le_of_ble_eq_true rfl, Nat.le_of_ble_eq_true rfl⟩, (hts _ lk_X3_toCell_1_2), (hts _ lk_X3_toCell_1_3)⟩ hC hP hS (ow_q1_1) rfl rfl rfl hl.1 rfl (Nat.le_of_ble_eq_true rfl) dX3_toCell_20 ⟨Nat.zero_le _, Nat.zero_le _⟩) hS (fun H locs hP hS => ?_)
    exact W.iret (v := (fX0_constantOf st 1 x3)) hx hb hr (fun t ht hW => ⟨⟨(fX0_constantOf st 1 x3), st, rfl, ⟨(by simp only [fX3_toCell_1, if_pos c_1]), rfl⟩, ow_Bi ht hP⟩, hS.F ht⟩) hS.2.2 dX3_toCell_23
  · refine og_cqN (og_runV (C := RX3) (T := TX3) (N := 14) (g := 0) (i := 0) (As := [.ref (ad 6 1), .int x2]) (rest := []) ⟨hx, hb, hml, hown, hts⟩ (kX3_kindOfItem_1 l D ca ad A st x2) (cwV 2 hts gX3_toCell_X3_kindOfItem rfl rfl rfl (by decide +kernel) ⟨Nat.le_of_ble_eq_true rfl, Nat.le_of_ble_eq_true rfl⟩) hC hP hS (ow_q0_0) rfl rfl rfl hl.1 rfl (Nat.le_of_ble_eq_true rfl) dX3_toCell_3 ⟨Nat.zero_le _, Nat.zero_le _⟩) hS (by simp only [fX3_kindOfItem_1, if_neg c_1]) (fun H locs hP hS => ?_)
    refine lv_astoreN (lv' := [(4, .null), (0, .ref (ad 0 0)), (1, .ref (ad 6 1)), (2, .int x2), (3, .int x3)]) hx hb dX3_toCell_6 hl (by decide) rfl (fun ls hl => ?_)
    refine lv_aloadN hx hb dX3_toCell_8 (lv_at hl 0 rfl) ?_
    refine lv_ifnonnullN hx hb dX3_toCell_10 ?_
    refine lv_iload_n hx hb dX3_toCell_13 rfl (lv_at hl 4 rfl) ?_
    refine lv_goto (tgt := 23) hx hb dX3_toCell_14 (by decide) ?_
    exact W.iret (v := x3) hx hb hr (fun t ht hW => ⟨⟨x3, st, rfl, ⟨(by simp only [fX3_toCell_1, if_neg c_1]), rfl⟩, ow_Bi ht hP⟩, hS.F ht⟩) hS.2.2 dX3_toCell_23

theorem ln_X3_fromCell_1_0 : (.methodLinkNest RX3 90 yX0_codeOf "RecordLabels" : Cond) ∈ ow_nest := by decide +kernel
theorem lk_X3_fromCell_1_1 : (.initialized RX0 : Cond) ∈ wsX3_fromCell := by decide +kernel
theorem lk_X3_fromCell_1_2 : (.instanceMethod yX0_codeOf : Cond) ∈ wsX3_fromCell := by decide +kernel
theorem lk_X3_fromCell_1_3 : (.selects RX0 yX0_codeOf yX0_codeOf : Cond) ∈ wsX3_fromCell := by decide +kernel
def fX3_fromCell_1 (st : ow_St) (x2 x3 : Int32) : Int32 := (if x2 = 0 then (fX0_codeOf st 1 x3) else x3)
set_option maxHeartbeats 4000000 in
set_option maxRecDepth 100000 in
theorem kX3_fromCell_1 (l : Launch) (D : va_G) (ca : Nat → ClassId) (ad : ow_Ad) (A : Nat → Prop) (st : ow_St) (x2 : Int32) (x3 : Int32) : Met l yX3_fromCell wsX3_fromCell ({ frames := 2, cells := 0, slots := 0, locals := 42 }) (va_Pc [.ref (ad 0 0), .ref (ad 6 1), .int x2, .int x3] (ow_W D ca ad A st)) (va_Qi (fun r st' => r = (fX3_fromCell_1 st x2 x3) ∧ st' = st) (ow_B D ca ad) A) 0 0 A := by
  refine Met.ofW (cc := cX3_fromCell) (maxL := 5) (ret := (some .int)) (by decide) rfl ?_
  intro p e s m args below meth c s₁ B hml hv
  obtain ⟨rfl, hP, hC⟩ := hv
  have hx := B.exec
  have hb := B.bytes
  have hr := B.returns
  have hts := atoms_spec (ws := wsX3_fromCell) B.pre
  have hown : s.vm.findClass RX3 = some m.cls := findClass_of_methodNamed B.named
  have hlocks := B.notSynchronized
  have hS : va_S A s.heap s.heap [] := va_S.rf
  have hl := lv_entry ([.ref (ad 0 0), .ref (ad 6 1), .int x2, .int x3]) (n := 5) (Nat.le_of_ble_eq_true rfl)
  rw [lg_entry_eq]
  generalize (lg_sl ([.ref (ad 0 0), .ref (ad 6 1), .int x2, .int x3]) ++ List.replicate (5 - (lg_sl ([.ref (ad 0 0), .ref (ad 6 1), .int x2, .int x3])).length) Slot.unset).toArray = ls at hl ⊢
  have hl : lv_has ls 5 [(0, .ref (ad 0 0)), (1, .ref (ad 6 1)), (2, .int x2), (3, .int x3)] := hl
  refine lv_aload_n hx hb dX3_fromCell_0 rfl (lv_at hl 0 rfl) ?_
  refine lv_aload_n hx hb dX3_fromCell_1 rfl (lv_at hl 1 rfl) ?_
  refine lv_iload_n hx hb dX3_fromCell_2 rfl (lv_at hl 2 rfl) ?_
  by_cases c_1 : x2 = 0
  · refine og_cqS (q := ad 1 1) (og_runV (C := RX3) (T := TX3) (N := 14) (g := 0) (i := 0) (As := [.ref (ad 6 1), .int x2]) (rest := []) ⟨hx, hb, hml, hown, hts⟩ (kX3_kindOfItem_1 l D ca ad A st x2) (cwV 2 hts gX3_fromCell_X3_kindOfItem rfl rfl rfl (by decide +kernel) ⟨Nat.le_of_ble_eq_true rfl, Nat.le_of_ble_eq_true rfl⟩) hC hP hS (ow_q0_0) rfl rfl rfl hl.1 rfl (Nat.le_of_ble_eq_true rfl) dX3_fromCell_3 ⟨Nat.zero_le _, Nat.zero_le _⟩) hS (by simp only [fX3_kindOfItem_1, if_pos c_1]) (fun H locs hP hS => ?_)
    refine lv_astore (lv' := [(4, .ref (ad 1 1)), (0, .ref (ad 0 0)), (1, .ref (ad 6 1)), (2, .int x2), (3, .int x3)]) hx hb dX3_fromCell_6 hl (by decide) rfl (fun ls hl => ?_)
    refine lv_aload hx hb dX3_fromCell_8 (lv_at hl 0 rfl) ?_
    refine lv_ifnonnull (tgt := 17) hx hb dX3_fromCell_10 (by decide) ?_
    refine lv_aload hx hb dX3_fromCell_17 (lv_at hl 0 rfl) ?_
    refine lv_iload_n hx hb dX3_fromCell_19 rfl (lv_at hl 4 rfl) ?_
    refine og_ciP (og_runVN (C := RX0) (T := TX0) (N := 7) (g := 1) (i := 1) (As := [.int x3]) (rest := []) ⟨hx, hb, hml, hown, hts⟩ (kX0_codeOf l D ca ad A st 1 (by decide) x3) ⟨va_cnB 1 hts gX3_fromCell_X0_codeOf_n90 rfl rfl rfl (hC.2.2.1 _ ln_X3_fromCell_1_0) (hts _ lk_X3_fromCell_1_1) (by decide +kernel) ⟨Nat.le_of_ble_eq_true rfl, Nat.le_of_ble_eq_true rfl⟩, (hts _ lk_X3_fromCell_1_2), (hts _ lk_X3_fromCell_1_3)⟩ hC hP hS (ow_q1_1) rfl rfl rfl hl.1 rfl (Nat.le_of_ble_eq_true rfl) dX3_fromCell_20 ⟨Nat.zero_le _, Nat.zero_le _⟩) hS (fun H locs hP hS => ?_)
    exact W.iret (v := (fX0_codeOf st 1 x3)) hx hb hr (fun t ht hW => ⟨⟨(fX0_codeOf st 1 x3), st, rfl, ⟨(by simp only [fX3_fromCell_1, if_pos c_1]), rfl⟩, ow_Bi ht hP⟩, hS.F ht⟩) hS.2.2 dX3_fromCell_23
  · refine og_cqN (og_runV (C := RX3) (T := TX3) (N := 14) (g := 0) (i := 0) (As := [.ref (ad 6 1), .int x2]) (rest := []) ⟨hx, hb, hml, hown, hts⟩ (kX3_kindOfItem_1 l D ca ad A st x2) (cwV 2 hts gX3_fromCell_X3_kindOfItem rfl rfl rfl (by decide +kernel) ⟨Nat.le_of_ble_eq_true rfl, Nat.le_of_ble_eq_true rfl⟩) hC hP hS (ow_q0_0) rfl rfl rfl hl.1 rfl (Nat.le_of_ble_eq_true rfl) dX3_fromCell_3 ⟨Nat.zero_le _, Nat.zero_le _⟩) hS (by simp only [fX3_kindOfItem_1, if_neg c_1]) (fun H locs hP hS => ?_)
    refine lv_astoreN (lv' := [(4, .null), (0, .ref (ad 0 0)), (1, .ref (ad 6 1)), (2, .int x2), (3, .int x3)]) hx hb dX3_fromCell_6 hl (by decide) rfl (fun ls hl => ?_)
    refine lv_aloadN hx hb dX3_fromCell_8 (lv_at hl 0 rfl) ?_
    refine lv_ifnonnullN hx hb dX3_fromCell_10 ?_
    refine lv_iload_n hx hb dX3_fromCell_13 rfl (lv_at hl 4 rfl) ?_
    refine lv_goto (tgt := 23) hx hb dX3_fromCell_14 (by decide) ?_
    exact W.iret (v := x3) hx hb hr (fun t ht hW => ⟨⟨x3, st, rfl, ⟨(by simp only [fX3_fromCell_1, if_neg c_1]), rfl⟩, ow_Bi ht hP⟩, hS.F ht⟩) hS.2.2 dX3_fromCell_23

theorem ln_X3_highestOf_1_0 : (.fieldLinkNest RX3 153 "RecordLabels$Kind" "size" "I" "RecordLabels" : Cond) ∈ ow_nest := by decide +kernel
theorem li_X3_highestOf_1_X0 : ∀ w ∈ u_ws RX0 TX0 7, w ∈ wsX3_highestOf := by decide +kernel
theorem ln_X3_highestOf_1_2 : (.fieldLinkNest RX3 206 "RecordLabels$Table" "measure" "I" "RecordLabels" : Cond) ∈ ow_nest := by decide +kernel
theorem li_X3_highestOf_1_X2 : ∀ w ∈ u_ws RX2 TX2 5, w ∈ wsX3_highestOf := by decide +kernel
theorem li_X3_highestOf_1_X3 : ∀ w ∈ u_ws RX3 TX3 14, w ∈ wsX3_highestOf := by decide +kernel
theorem lk_X3_highestOf_1_5 : (.fieldLink RX3 45 "RecordLabels" "nodeTable" "LRecordLabels$Table;" : Cond) ∈ wsX3_highestOf := by decide +kernel
theorem lk_X3_highestOf_1_6 : (.constant RX3 240 (1000000) : Cond) ∈ wsX3_highestOf := by decide +kernel
theorem ln_X3_highestOf_1_7 : (.fieldLinkNest RX3 162 "RecordLabels$Table" "size" "I" "RecordLabels" : Cond) ∈ ow_nest := by decide +kernel
def fX3_highestOf_1 (st : ow_St) (x2 : Int32) : Int32 := (if x2 = 0 then 6 else (if x2 = 3 then 1000000 else ((st.1 4 0) - 1)))
set_option maxHeartbeats 4000000 in
set_option maxRecDepth 100000 in
theorem kX3_highestOf_1 (l : Launch) (D : va_G) (ca : Nat → ClassId) (ad : ow_Ad) (A : Nat → Prop) (st : ow_St) (x2 : Int32) : Met l yX3_highestOf wsX3_highestOf ({ frames := 1, cells := 0, slots := 0, locals := 22 }) (va_Pc [.ref (ad 0 0), .ref (ad 6 1), .int x2] (ow_W D ca ad A st)) (va_Qi (fun r st' => r = (fX3_highestOf_1 st x2) ∧ st' = st) (ow_B D ca ad) A) 0 0 A := by
  refine Met.ofW (cc := cX3_highestOf) (maxL := 4) (ret := (some .int)) (by decide) rfl ?_
  intro p e s m args below meth c s₁ B hml hv
  obtain ⟨rfl, hP, hC⟩ := hv
  have hx := B.exec
  have hb := B.bytes
  have hr := B.returns
  have hts := atoms_spec (ws := wsX3_highestOf) B.pre
  have hown : s.vm.findClass RX3 = some m.cls := findClass_of_methodNamed B.named
  have hlocks := B.notSynchronized
  have hS : va_S A s.heap s.heap [] := va_S.rf
  have hl := lv_entry ([.ref (ad 0 0), .ref (ad 6 1), .int x2]) (n := 4) (Nat.le_of_ble_eq_true rfl)
  rw [lg_entry_eq]
  generalize (lg_sl ([.ref (ad 0 0), .ref (ad 6 1), .int x2]) ++ List.replicate (4 - (lg_sl ([.ref (ad 0 0), .ref (ad 6 1), .int x2])).length) Slot.unset).toArray = ls at hl ⊢
  have hl : lv_has ls 4 [(0, .ref (ad 0 0)), (1, .ref (ad 6 1)), (2, .int x2)] := hl
  refine lv_aload_n hx hb dX3_highestOf_0 rfl (lv_at hl 0 rfl) ?_
  refine lv_aload_n hx hb dX3_highestOf_1 rfl (lv_at hl 1 rfl) ?_
  refine lv_iload_n hx hb dX3_highestOf_2 rfl (lv_at hl 2 rfl) ?_
  by_cases c_1 : x2 = 0
  · refine og_cqS (q := ad 1 1) (og_runV (C := RX3) (T := TX3) (N := 14) (g := 0) (i := 0) (As := [.ref (ad 6 1), .int x2]) (rest := []) ⟨hx, hb, hml, hown, hts⟩ (kX3_kindOfItem_1 l D ca ad A st x2) (cwV 2 hts gX3_highestOf_X3_kindOfItem rfl rfl rfl (by decide +kernel) ⟨Nat.le_of_ble_eq_true rfl, Nat.le_of_ble_eq_true rfl⟩) hC hP hS (ow_q0_0) rfl rfl rfl hl.1 rfl (Nat.le_of_ble_eq_true rfl) dX3_highestOf_3 ⟨Nat.zero_le _, Nat.zero_le _⟩) hS (by simp only [fX3_kindOfItem_1, if_pos c_1]) (fun H locs hP hS => ?_)
    refine lv_astore_n (lv' := [(3, .ref (ad 1 1)), (0, .ref (ad 0 0)), (1, .ref (ad 6 1)), (2, .int x2)]) hx hb dX3_highestOf_6 rfl hl (by decide) rfl (fun ls hl => ?_)
    refine lv_aload_n hx hb dX3_highestOf_7 rfl (lv_at hl 0 rfl) ?_
    refine lv_ifnull hx hb dX3_highestOf_8 ?_
    refine lv_aload_n hx hb dX3_highestOf_11 rfl (lv_at hl 0 rfl) ?_
    refine og_getN (C := RX0) (T := TX0) (N := 7) (g := 1) (i := 1) (v := .int 7) hx hb hts li_X3_highestOf_1_X0 hown hC hP (ow_q1_1) rfl rfl 2 (by decide) ln_X3_highestOf_1_0 rfl rfl dX3_highestOf_12 ?_
    refine lv_iconst (v := 1) hx hb dX3_highestOf_15 (by decide) ?_
    refine lv_isub hx hb dX3_highestOf_16 ?_
    rw [show (7 : Int32) - 1 = (6 : Int32) from rfl]
    exact W.iret (v := 6) hx hb hr (fun t ht hW => ⟨⟨6, st, rfl, ⟨(by simp only [fX3_highestOf_1, if_pos c_1]), rfl⟩, ow_Bi ht hP⟩, hS.F ht⟩) hS.2.2 dX3_highestOf_17
  · refine og_cqN (og_runV (C := RX3) (T := TX3) (N := 14) (g := 0) (i := 0) (As := [.ref (ad 6 1), .int x2]) (rest := []) ⟨hx, hb, hml, hown, hts⟩ (kX3_kindOfItem_1 l D ca ad A st x2) (cwV 2 hts gX3_highestOf_X3_kindOfItem rfl rfl rfl (by decide +kernel) ⟨Nat.le_of_ble_eq_true rfl, Nat.le_of_ble_eq_true rfl⟩) hC hP hS (ow_q0_0) rfl rfl rfl hl.1 rfl (Nat.le_of_ble_eq_true rfl) dX3_highestOf_3 ⟨Nat.zero_le _, Nat.zero_le _⟩) hS (by simp only [fX3_kindOfItem_1, if_neg c_1]) (fun H locs hP hS => ?_)
    refine lv_astore_nN (lv' := [(3, .null), (0, .ref (ad 0 0)), (1, .ref (ad 6 1)), (2, .int x2)]) hx hb dX3_highestOf_6 rfl hl (by decide) rfl (fun ls hl => ?_)
    refine lv_aload_nN hx hb dX3_highestOf_7 rfl (lv_at hl 0 rfl) ?_
    refine lv_ifnullN (tgt := 18) hx hb dX3_highestOf_8 (by decide) ?_
    refine lv_iload_n hx hb dX3_highestOf_18 rfl (lv_at hl 3 rfl) ?_
    refine lv_aload_n hx hb dX3_highestOf_19 rfl (lv_at hl 2 rfl) ?_
    refine og_getN (C := RX2) (T := TX2) (N := 5) (g := 6) (i := 1) (v := .int 3) hx hb hts li_X3_highestOf_1_X2 hown hC hP (ow_q6_1) rfl rfl 2 (by decide) ln_X3_highestOf_1_2 rfl rfl dX3_highestOf_20 ?_
    refine lv_icmp_ne (tgt := 43) hx hb dX3_highestOf_23 (by decide) (fun c_2 => ?_) (fun c_2 => ?_)
    · refine lv_aload_n hx hb dX3_highestOf_43 rfl (lv_at hl 1 rfl) ?_
      refine og_get (C := RX3) (T := TX3) (N := 14) (g := 0) (i := 0) (v := .ref (ad 6 0)) hx hb hts li_X3_highestOf_1_X3 hown hC hP (ow_q0_0) rfl rfl 4 (by decide) (hts _ lk_X3_highestOf_1_5) rfl rfl dX3_highestOf_44 ?_
      refine og_getN (C := RX2) (T := TX2) (N := 5) (g := 6) (i := 0) (v := .int (st.1 4 0)) hx hb hts li_X3_highestOf_1_X2 hown hC hP (ow_q6_0) rfl rfl 4 (by decide) ln_X3_highestOf_1_7 rfl rfl dX3_highestOf_47 ?_
      refine lv_iconst (v := 1) hx hb dX3_highestOf_50 (by decide) ?_
      refine lv_isub hx hb dX3_highestOf_51 ?_
      exact W.iret (v := ((st.1 4 0) - 1)) hx hb hr (fun t ht hW => ⟨⟨((st.1 4 0) - 1), st, rfl, ⟨(by simp only [fX3_highestOf_1, if_neg c_1, if_neg c_2]), rfl⟩, ow_Bi ht hP⟩, hS.F ht⟩) hS.2.2 dX3_highestOf_52
    · refine lv_aload_n hx hb dX3_highestOf_26 rfl (lv_at hl 2 rfl) ?_
      refine lv_aload_n hx hb dX3_highestOf_27 rfl (lv_at hl 1 rfl) ?_
      refine og_get (C := RX3) (T := TX3) (N := 14) (g := 0) (i := 0) (v := .ref (ad 6 0)) hx hb hts li_X3_highestOf_1_X3 hown hC hP (ow_q0_0) rfl rfl 4 (by decide) (hts _ lk_X3_highestOf_1_5) rfl rfl dX3_highestOf_28 ?_
      refine lv_acmp_ne (rx := some (ad 6 1)) (ry := some (ad 6 0)) (tgt := 40) hx hb dX3_highestOf_31 (by decide) (fun _ => ?_) (fun c => absurd c (fun h => absurd (ow_inj hC.2.1 (ow_q6_1) (ow_q6_0) (Option.some.inj h)).2 (by decide)))
      refine lv_ldc (v := 1000000) hx hb hown (hts _ lk_X3_highestOf_1_6) dX3_highestOf_40 ?_
      exact W.iret (v := 1000000) hx hb hr (fun t ht hW => ⟨⟨1000000, st, rfl, ⟨(by simp only [fX3_highestOf_1, if_neg c_1, if_pos c_2]), rfl⟩, ow_Bi ht hP⟩, hS.F ht⟩) hS.2.2 dX3_highestOf_42

theorem ln_X3_wrongItem_1_0 : (.fieldLinkNest RX3 171 "RecordLabels$Table" "items" "I" "RecordLabels" : Cond) ∈ ow_nest := by decide +kernel
theorem li_X3_wrongItem_1_X2 : ∀ w ∈ u_ws RX2 TX2 5, w ∈ wsX3_wrongItem := by decide +kernel
theorem li_X3_wrongItem_1_X3 : ∀ w ∈ u_ws RX3 TX3 14, w ∈ wsX3_wrongItem := by decide +kernel
theorem lk_X3_wrongItem_1_3 : (.fieldLink RX3 63 "RecordLabels" "draft" "[I" : Cond) ∈ wsX3_wrongItem := by decide +kernel
theorem lk_X3_wrongItem_1_4 : (.fieldLink RX3 49 "RecordLabels" "arcTable" "LRecordLabels$Table;" : Cond) ∈ wsX3_wrongItem := by decide +kernel
def fX3_wrongItem_1 (st : ow_St) : Int32 := (if (fX3_isFromTo st (st.1 103 0) 0 (fX3_highestOf_1 st 0)) = 0 then 0 else (if (fX3_isFromTo st (st.1 103 1) 0 (fX3_highestOf_1 st 1)) = 0 then 1 else (if (fX3_isFromTo st (st.1 103 2) 0 (fX3_highestOf_1 st 2)) = 0 then 2 else (if (fX3_isFromTo st (st.1 103 3) 0 (fX3_highestOf_1 st 3)) = 0 then 3 else (if (st.1 103 1) = (st.1 103 2) then 2 else (-1))))))
set_option maxHeartbeats 4000000 in
set_option maxRecDepth 100000 in
theorem kX3_wrongItem_1 (l : Launch) (D : va_G) (ca : Nat → ClassId) (ad : ow_Ad) (A : Nat → Prop) (st : ow_St)  : Met l yX3_wrongItem wsX3_wrongItem ({ frames := 2, cells := 0, slots := 0, locals := 45 }) (va_Pc [.ref (ad 0 0), .ref (ad 6 1)] (ow_W D ca ad A st)) (va_Qi (fun r st' => r = (fX3_wrongItem_1 st) ∧ st' = st) (ow_B D ca ad) A) 0 0 A := by
  refine Met.ofW (cc := cX3_wrongItem) (maxL := 3) (ret := (some .int)) (by decide) rfl ?_
  intro p e s m args below meth c s₁ B hml hv
  obtain ⟨rfl, hP, hC⟩ := hv
  have hx := B.exec
  have hb := B.bytes
  have hr := B.returns
  have hts := atoms_spec (ws := wsX3_wrongItem) B.pre
  have hown : s.vm.findClass RX3 = some m.cls := findClass_of_methodNamed B.named
  have hlocks := B.notSynchronized
  have hS : va_S A s.heap s.heap [] := va_S.rf
  have hl := lv_entry ([.ref (ad 0 0), .ref (ad 6 1)]) (n := 3) (Nat.le_of_ble_eq_true rfl)
  rw [lg_entry_eq]
  generalize (lg_sl ([.ref (ad 0 0), .ref (ad 6 1)]) ++ List.replicate (3 - (lg_sl ([.ref (ad 0 0), .ref (ad 6 1)])).length) Slot.unset).toArray = ls at hl ⊢
  have hl : lv_has ls 3 [(0, .ref (ad 0 0)), (1, .ref (ad 6 1))] := hl
  refine lv_iconst (v := 0) hx hb dX3_wrongItem_0 (by decide) ?_
  refine lv_istore_n (lv' := [(2, .int 0), (0, .ref (ad 0 0)), (1, .ref (ad 6 1))]) hx hb dX3_wrongItem_1 rfl hl (by decide) rfl (fun ls hl => ?_)
  refine lv_iload_n hx hb dX3_wrongItem_2 rfl (lv_at hl 0 rfl) ?_
  refine lv_aload_n hx hb dX3_wrongItem_3 rfl (lv_at hl 2 rfl) ?_
  refine og_getN (C := RX2) (T := TX2) (N := 5) (g := 6) (i := 1) (v := .int 4) hx hb hts li_X3_wrongItem_1_X2 hown hC hP (ow_q6_1) rfl rfl 1 (by decide) ln_X3_wrongItem_1_0 rfl rfl dX3_wrongItem_4 ?_
  refine lv_icmp_ge (tgt := 37) hx hb dX3_wrongItem_7 (by decide) (fun c => absurd c (by decide)) (fun _ => ?_)
  refine lv_aload_n hx hb dX3_wrongItem_10 rfl (lv_at hl 1 rfl) ?_
  refine og_get (C := RX3) (T := TX3) (N := 14) (g := 0) (i := 0) (v := .ref (ad 9 0)) hx hb hts li_X3_wrongItem_1_X3 hown hC hP (ow_q0_0) rfl rfl 9 (by decide) (hts _ lk_X3_wrongItem_1_3) rfl rfl dX3_wrongItem_11 ?_
  refine lv_iload_n hx hb dX3_wrongItem_14 rfl (lv_at hl 0 rfl) ?_
  refine og_iald (g := 9) (i := 0) (j := 0) (v := (st.1 103 0)) hx hb hC hP (ow_q9_0) rfl (by unfold vp_in; decide) rfl rfl dX3_wrongItem_15 ?_
  refine lv_iconst (v := 0) hx hb dX3_wrongItem_16 (by decide) ?_
  refine lv_aload_n hx hb dX3_wrongItem_17 rfl (lv_at hl 1 rfl) ?_
  refine lv_aload_n hx hb dX3_wrongItem_18 rfl (lv_at hl 2 rfl) ?_
  refine lv_iload_n hx hb dX3_wrongItem_19 rfl (lv_at hl 0 rfl) ?_
  refine og_ciP (og_runV (C := RX3) (T := TX3) (N := 14) (g := 0) (i := 0) (As := [.ref (ad 6 1), .int 0]) (rest := [.int 0, .int (st.1 103 0)]) ⟨hx, hb, hml, hown, hts⟩ (kX3_highestOf_1 l D ca ad A st 0) (cwV 2 hts gX3_wrongItem_X3_highestOf rfl rfl rfl (by decide +kernel) ⟨Nat.le_of_ble_eq_true rfl, Nat.le_of_ble_eq_true rfl⟩) hC hP hS (ow_q0_0) rfl rfl rfl hl.1 rfl (Nat.le_of_ble_eq_true rfl) dX3_wrongItem_20 ⟨Nat.zero_le _, Nat.zero_le _⟩) hS (fun H locs hP hS => ?_)
  refine og_ciP (og_runS (As := [.int (st.1 103 0), .int 0, .int (fX3_highestOf_1 st 0)]) (rest := []) ⟨hx, hb, hml, hown, hts⟩ (kX3_isFromTo l D ca ad A st (st.1 103 0) 0 (fX3_highestOf_1 st 0)) (va_cwS 3 hts gX3_wrongItem_X3_isFromTo rfl rfl rfl (by decide +kernel) ⟨Nat.le_of_ble_eq_true rfl, Nat.le_of_ble_eq_true rfl⟩) hC hP hS rfl hl.1 rfl (Nat.le_of_ble_eq_true rfl) dX3_wrongItem_23 ⟨Nat.zero_le _, Nat.zero_le _⟩) hS (fun H locs hP hS => ?_)
  refine lv_if_ne (tgt := 31) hx hb dX3_wrongItem_26 (by decide) (fun c_1 => ?_) (fun c_1 => ?_)
  · refine lv_iinc (v := 1) (lv' := [(2, .int 1), (0, .ref (ad 0 0)), (1, .ref (ad 6 1))]) hx hb dX3_wrongItem_31 hl (k := 0) rfl (by decide) (by decide) rfl (fun ls hl => ?_)
    refine lv_goto (tgt := 2) hx hb dX3_wrongItem_34 (by decide) ?_
    refine lv_iload_n hx hb dX3_wrongItem_2 rfl (lv_at hl 0 rfl) ?_
    refine lv_aload_n hx hb dX3_wrongItem_3 rfl (lv_at hl 2 rfl) ?_
    refine og_getN (C := RX2) (T := TX2) (N := 5) (g := 6) (i := 1) (v := .int 4) hx hb hts li_X3_wrongItem_1_X2 hown hC hP (ow_q6_1) rfl rfl 1 (by decide) ln_X3_wrongItem_1_0 rfl rfl dX3_wrongItem_4 ?_
    refine lv_icmp_ge (tgt := 37) hx hb dX3_wrongItem_7 (by decide) (fun c => absurd c (by decide)) (fun _ => ?_)
    refine lv_aload_n hx hb dX3_wrongItem_10 rfl (lv_at hl 1 rfl) ?_
    refine og_get (C := RX3) (T := TX3) (N := 14) (g := 0) (i := 0) (v := .ref (ad 9 0)) hx hb hts li_X3_wrongItem_1_X3 hown hC hP (ow_q0_0) rfl rfl 9 (by decide) (hts _ lk_X3_wrongItem_1_3) rfl rfl dX3_wrongItem_11 ?_
    refine lv_iload_n hx hb dX3_wrongItem_14 rfl (lv_at hl 0 rfl) ?_
    refine og_iald (g := 9) (i := 0) (j := 1) (v := (st.1 103 1)) hx hb hC hP (ow_q9_0) rfl (by unfold vp_in; decide) rfl rfl dX3_wrongItem_15 ?_
    refine lv_iconst (v := 0) hx hb dX3_wrongItem_16 (by decide) ?_
    refine lv_aload_n hx hb dX3_wrongItem_17 rfl (lv_at hl 1 rfl) ?_
    refine lv_aload_n hx hb dX3_wrongItem_18 rfl (lv_at hl 2 rfl) ?_
    refine lv_iload_n hx hb dX3_wrongItem_19 rfl (lv_at hl 0 rfl) ?_
    refine og_ciP (og_runV (C := RX3) (T := TX3) (N := 14) (g := 0) (i := 0) (As := [.ref (ad 6 1), .int 1]) (rest := [.int 0, .int (st.1 103 1)]) ⟨hx, hb, hml, hown, hts⟩ (kX3_highestOf_1 l D ca ad A st 1) (cwV 2 hts gX3_wrongItem_X3_highestOf rfl rfl rfl (by decide +kernel) ⟨Nat.le_of_ble_eq_true rfl, Nat.le_of_ble_eq_true rfl⟩) hC hP hS (ow_q0_0) rfl rfl rfl hl.1 rfl (Nat.le_of_ble_eq_true rfl) dX3_wrongItem_20 ⟨Nat.zero_le _, Nat.zero_le _⟩) hS (fun H locs hP hS => ?_)
    refine og_ciP (og_runS (As := [.int (st.1 103 1), .int 0, .int (fX3_highestOf_1 st 1)]) (rest := []) ⟨hx, hb, hml, hown, hts⟩ (kX3_isFromTo l D ca ad A st (st.1 103 1) 0 (fX3_highestOf_1 st 1)) (va_cwS 3 hts gX3_wrongItem_X3_isFromTo rfl rfl rfl (by decide +kernel) ⟨Nat.le_of_ble_eq_true rfl, Nat.le_of_ble_eq_true rfl⟩) hC hP hS rfl hl.1 rfl (Nat.le_of_ble_eq_true rfl) dX3_wrongItem_23 ⟨Nat.zero_le _, Nat.zero_le _⟩) hS (fun H locs hP hS => ?_)
    refine lv_if_ne (tgt := 31) hx hb dX3_wrongItem_26 (by decide) (fun c_2 => ?_) (fun c_2 => ?_)
    · refine lv_iinc (v := 2) (lv' := [(2, .int 2), (0, .ref (ad 0 0)), (1, .ref (ad 6 1))]) hx hb dX3_wrongItem_31 hl (k := 0) rfl (by decide) (by decide) rfl (fun ls hl => ?_)
      refine lv_goto (tgt := 2) hx hb dX3_wrongItem_34 (by decide) ?_
      refine lv_iload_n hx hb dX3_wrongItem_2 rfl (lv_at hl 0 rfl) ?_
      refine lv_aload_n hx hb dX3_wrongItem_3 rfl (lv_at hl 2 rfl) ?_
      refine og_getN (C := RX2) (T := TX2) (N := 5) (g := 6) (i := 1) (v := .int 4) hx hb hts li_X3_wrongItem_1_X2 hown hC hP (ow_q6_1) rfl rfl 1 (by decide) ln_X3_wrongItem_1_0 rfl rfl dX3_wrongItem_4 ?_
      refine lv_icmp_ge (tgt := 37) hx hb dX3_wrongItem_7 (by decide) (fun c => absurd c (by decide)) (fun _ => ?_)
      refine lv_aload_n hx hb dX3_wrongItem_10 rfl (lv_at hl 1 rfl) ?_
      refine og_get (C := RX3) (T := TX3) (N := 14) (g := 0) (i := 0) (v := .ref (ad 9 0)) hx hb hts li_X3_wrongItem_1_X3 hown hC hP (ow_q0_0) rfl rfl 9 (by decide) (hts _ lk_X3_wrongItem_1_3) rfl rfl dX3_wrongItem_11 ?_
      refine lv_iload_n hx hb dX3_wrongItem_14 rfl (lv_at hl 0 rfl) ?_
      refine og_iald (g := 9) (i := 0) (j := 2) (v := (st.1 103 2)) hx hb hC hP (ow_q9_0) rfl (by unfold vp_in; decide) rfl rfl dX3_wrongItem_15 ?_
      refine lv_iconst (v := 0) hx hb dX3_wrongItem_16 (by decide) ?_
      refine lv_aload_n hx hb dX3_wrongItem_17 rfl (lv_at hl 1 rfl) ?_
      refine lv_aload_n hx hb dX3_wrongItem_18 rfl (lv_at hl 2 rfl) ?_
      refine lv_iload_n hx hb dX3_wrongItem_19 rfl (lv_at hl 0 rfl) ?_
      refine og_ciP (og_runV (C := RX3) (T := TX3) (N := 14) (g := 0) (i := 0) (As := [.ref (ad 6 1), .int 2]) (rest := [.int 0, .int (st.1 103 2)]) ⟨hx, hb, hml, hown, hts⟩ (kX3_highestOf_1 l D ca ad A st 2) (cwV 2 hts gX3_wrongItem_X3_highestOf rfl rfl rfl (by decide +kernel) ⟨Nat.le_of_ble_eq_true rfl, Nat.le_of_ble_eq_true rfl⟩) hC hP hS (ow_q0_0) rfl rfl rfl hl.1 rfl (Nat.le_of_ble_eq_true rfl) dX3_wrongItem_20 ⟨Nat.zero_le _, Nat.zero_le _⟩) hS (fun H locs hP hS => ?_)
      refine og_ciP (og_runS (As := [.int (st.1 103 2), .int 0, .int (fX3_highestOf_1 st 2)]) (rest := []) ⟨hx, hb, hml, hown, hts⟩ (kX3_isFromTo l D ca ad A st (st.1 103 2) 0 (fX3_highestOf_1 st 2)) (va_cwS 3 hts gX3_wrongItem_X3_isFromTo rfl rfl rfl (by decide +kernel) ⟨Nat.le_of_ble_eq_true rfl, Nat.le_of_ble_eq_true rfl⟩) hC hP hS rfl hl.1 rfl (Nat.le_of_ble_eq_true rfl) dX3_wrongItem_23 ⟨Nat.zero_le _, Nat.zero_le _⟩) hS (fun H locs hP hS => ?_)
      refine lv_if_ne (tgt := 31) hx hb dX3_wrongItem_26 (by decide) (fun c_3 => ?_) (fun c_3 => ?_)
      · refine lv_iinc (v := 3) (lv' := [(2, .int 3), (0, .ref (ad 0 0)), (1, .ref (ad 6 1))]) hx hb dX3_wrongItem_31 hl (k := 0) rfl (by decide) (by decide) rfl (fun ls hl => ?_)
        refine lv_goto (tgt := 2) hx hb dX3_wrongItem_34 (by decide) ?_
        refine lv_iload_n hx hb dX3_wrongItem_2 rfl (lv_at hl 0 rfl) ?_
        refine lv_aload_n hx hb dX3_wrongItem_3 rfl (lv_at hl 2 rfl) ?_
        refine og_getN (C := RX2) (T := TX2) (N := 5) (g := 6) (i := 1) (v := .int 4) hx hb hts li_X3_wrongItem_1_X2 hown hC hP (ow_q6_1) rfl rfl 1 (by decide) ln_X3_wrongItem_1_0 rfl rfl dX3_wrongItem_4 ?_
        refine lv_icmp_ge (tgt := 37) hx hb dX3_wrongItem_7 (by decide) (fun c => absurd c (by decide)) (fun _ => ?_)
        refine lv_aload_n hx hb dX3_wrongItem_10 rfl (lv_at hl 1 rfl) ?_
        refine og_get (C := RX3) (T := TX3) (N := 14) (g := 0) (i := 0) (v := .ref (ad 9 0)) hx hb hts li_X3_wrongItem_1_X3 hown hC hP (ow_q0_0) rfl rfl 9 (by decide) (hts _ lk_X3_wrongItem_1_3) rfl rfl dX3_wrongItem_11 ?_
        refine lv_iload_n hx hb dX3_wrongItem_14 rfl (lv_at hl 0 rfl) ?_
        refine og_iald (g := 9) (i := 0) (j := 3) (v := (st.1 103 3)) hx hb hC hP (ow_q9_0) rfl (by unfold vp_in; decide) rfl rfl dX3_wrongItem_15 ?_
        refine lv_iconst (v := 0) hx hb dX3_wrongItem_16 (by decide) ?_
        refine lv_aload_n hx hb dX3_wrongItem_17 rfl (lv_at hl 1 rfl) ?_
        refine lv_aload_n hx hb dX3_wrongItem_18 rfl (lv_at hl 2 rfl) ?_
        refine lv_iload_n hx hb dX3_wrongItem_19 rfl (lv_at hl 0 rfl) ?_
        refine og_ciP (og_runV (C := RX3) (T := TX3) (N := 14) (g := 0) (i := 0) (As := [.ref (ad 6 1), .int 3]) (rest := [.int 0, .int (st.1 103 3)]) ⟨hx, hb, hml, hown, hts⟩ (kX3_highestOf_1 l D ca ad A st 3) (cwV 2 hts gX3_wrongItem_X3_highestOf rfl rfl rfl (by decide +kernel) ⟨Nat.le_of_ble_eq_true rfl, Nat.le_of_ble_eq_true rfl⟩) hC hP hS (ow_q0_0) rfl rfl rfl hl.1 rfl (Nat.le_of_ble_eq_true rfl) dX3_wrongItem_20 ⟨Nat.zero_le _, Nat.zero_le _⟩) hS (fun H locs hP hS => ?_)
        refine og_ciP (og_runS (As := [.int (st.1 103 3), .int 0, .int (fX3_highestOf_1 st 3)]) (rest := []) ⟨hx, hb, hml, hown, hts⟩ (kX3_isFromTo l D ca ad A st (st.1 103 3) 0 (fX3_highestOf_1 st 3)) (va_cwS 3 hts gX3_wrongItem_X3_isFromTo rfl rfl rfl (by decide +kernel) ⟨Nat.le_of_ble_eq_true rfl, Nat.le_of_ble_eq_true rfl⟩) hC hP hS rfl hl.1 rfl (Nat.le_of_ble_eq_true rfl) dX3_wrongItem_23 ⟨Nat.zero_le _, Nat.zero_le _⟩) hS (fun H locs hP hS => ?_)
        refine lv_if_ne (tgt := 31) hx hb dX3_wrongItem_26 (by decide) (fun c_4 => ?_) (fun c_4 => ?_)
        · refine lv_iinc (v := 4) (lv' := [(2, .int 4), (0, .ref (ad 0 0)), (1, .ref (ad 6 1))]) hx hb dX3_wrongItem_31 hl (k := 0) rfl (by decide) (by decide) rfl (fun ls hl => ?_)
          refine lv_goto (tgt := 2) hx hb dX3_wrongItem_34 (by decide) ?_
          refine lv_iload_n hx hb dX3_wrongItem_2 rfl (lv_at hl 0 rfl) ?_
          refine lv_aload_n hx hb dX3_wrongItem_3 rfl (lv_at hl 2 rfl) ?_
          refine og_getN (C := RX2) (T := TX2) (N := 5) (g := 6) (i := 1) (v := .int 4) hx hb hts li_X3_wrongItem_1_X2 hown hC hP (ow_q6_1) rfl rfl 1 (by decide) ln_X3_wrongItem_1_0 rfl rfl dX3_wrongItem_4 ?_
          refine lv_icmp_ge (tgt := 37) hx hb dX3_wrongItem_7 (by decide) (fun _ => ?_) (fun c => absurd (by decide) c)
          refine lv_aload_n hx hb dX3_wrongItem_37 rfl (lv_at hl 2 rfl) ?_
          refine lv_aload_n hx hb dX3_wrongItem_38 rfl (lv_at hl 1 rfl) ?_
          refine og_get (C := RX3) (T := TX3) (N := 14) (g := 0) (i := 0) (v := .ref (ad 6 1)) hx hb hts li_X3_wrongItem_1_X3 hown hC hP (ow_q0_0) rfl rfl 5 (by decide) (hts _ lk_X3_wrongItem_1_4) rfl rfl dX3_wrongItem_39 ?_
          refine lv_acmp_ne (rx := some (ad 6 1)) (ry := some (ad 6 1)) (tgt := 64) hx hb dX3_wrongItem_42 (by decide) (fun c => absurd rfl c) (fun _ => ?_)
          refine lv_aload_n hx hb dX3_wrongItem_45 rfl (lv_at hl 1 rfl) ?_
          refine og_get (C := RX3) (T := TX3) (N := 14) (g := 0) (i := 0) (v := .ref (ad 9 0)) hx hb hts li_X3_wrongItem_1_X3 hown hC hP (ow_q0_0) rfl rfl 9 (by decide) (hts _ lk_X3_wrongItem_1_3) rfl rfl dX3_wrongItem_46 ?_
          refine lv_iconst (v := 1) hx hb dX3_wrongItem_49 (by decide) ?_
          refine og_iald (g := 9) (i := 0) (j := 1) (v := (st.1 103 1)) hx hb hC hP (ow_q9_0) rfl (by unfold vp_in; decide) rfl rfl dX3_wrongItem_50 ?_
          refine lv_aload_n hx hb dX3_wrongItem_51 rfl (lv_at hl 1 rfl) ?_
          refine og_get (C := RX3) (T := TX3) (N := 14) (g := 0) (i := 0) (v := .ref (ad 9 0)) hx hb hts li_X3_wrongItem_1_X3 hown hC hP (ow_q0_0) rfl rfl 9 (by decide) (hts _ lk_X3_wrongItem_1_3) rfl rfl dX3_wrongItem_52 ?_
          refine lv_iconst (v := 2) hx hb dX3_wrongItem_55 (by decide) ?_
          refine og_iald (g := 9) (i := 0) (j := 2) (v := (st.1 103 2)) hx hb hC hP (ow_q9_0) rfl (by unfold vp_in; decide) rfl rfl dX3_wrongItem_56 ?_
          refine lv_icmp_ne (tgt := 64) hx hb dX3_wrongItem_57 (by decide) (fun c_5 => ?_) (fun c_5 => ?_)
          · refine lv_iconst (v := (-1)) hx hb dX3_wrongItem_64 (by decide) ?_
            exact W.iret (v := (-1)) hx hb hr (fun t ht hW => ⟨⟨(-1), st, rfl, ⟨(by simp only [fX3_wrongItem_1, if_neg c_1, if_neg c_2, if_neg c_3, if_neg c_4, if_neg c_5]), rfl⟩, ow_Bi ht hP⟩, hS.F ht⟩) hS.2.2 dX3_wrongItem_65
          · refine lv_iconst (v := 2) hx hb dX3_wrongItem_60 (by decide) ?_
            refine lv_goto (tgt := 65) hx hb dX3_wrongItem_61 (by decide) ?_
            exact W.iret (v := 2) hx hb hr (fun t ht hW => ⟨⟨2, st, rfl, ⟨(by simp only [fX3_wrongItem_1, if_neg c_1, if_neg c_2, if_neg c_3, if_neg c_4, if_pos c_5]), rfl⟩, ow_Bi ht hP⟩, hS.F ht⟩) hS.2.2 dX3_wrongItem_65
        · refine lv_iload_n hx hb dX3_wrongItem_29 rfl (lv_at hl 0 rfl) ?_
          exact W.iret (v := 3) hx hb hr (fun t ht hW => ⟨⟨3, st, rfl, ⟨(by simp only [fX3_wrongItem_1, if_neg c_1, if_neg c_2, if_neg c_3, if_pos c_4]), rfl⟩, ow_Bi ht hP⟩, hS.F ht⟩) hS.2.2 dX3_wrongItem_30
      · refine lv_iload_n hx hb dX3_wrongItem_29 rfl (lv_at hl 0 rfl) ?_
        exact W.iret (v := 2) hx hb hr (fun t ht hW => ⟨⟨2, st, rfl, ⟨(by simp only [fX3_wrongItem_1, if_neg c_1, if_neg c_2, if_pos c_3]), rfl⟩, ow_Bi ht hP⟩, hS.F ht⟩) hS.2.2 dX3_wrongItem_30
    · refine lv_iload_n hx hb dX3_wrongItem_29 rfl (lv_at hl 0 rfl) ?_
      exact W.iret (v := 1) hx hb hr (fun t ht hW => ⟨⟨1, st, rfl, ⟨(by simp only [fX3_wrongItem_1, if_neg c_1, if_pos c_2]), rfl⟩, ow_Bi ht hP⟩, hS.F ht⟩) hS.2.2 dX3_wrongItem_30
  · refine lv_iload_n hx hb dX3_wrongItem_29 rfl (lv_at hl 0 rfl) ?_
    exact W.iret (v := 0) hx hb hr (fun t ht hW => ⟨⟨0, st, rfl, ⟨(by simp only [fX3_wrongItem_1, if_pos c_1]), rfl⟩, ow_Bi ht hP⟩, hS.F ht⟩) hS.2.2 dX3_wrongItem_30
