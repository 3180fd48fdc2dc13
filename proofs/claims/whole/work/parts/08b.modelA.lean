def fX4_isIn (st : ow_St) (x0 x1 x2 : Int32) : Int32 := (if x0 < x1 then 0 else (if x2 < x0 then 0 else 1))
set_option maxHeartbeats 4000000 in
set_option maxRecDepth 100000 in
theorem kX4_isIn (l : Launch) (D : va_G) (ca : Nat → ClassId) (ad : ow_Ad) (A : Nat → Prop) (st : ow_St) (x0 : Int32) (x1 : Int32) (x2 : Int32) : Met l yX4_isIn wsX4_isIn ({ frames := 0, cells := 0, slots := 0, locals := 0 }) (va_Pc [.int x0, .int x1, .int x2] (ow_W D ca ad A st)) (va_Qi (fun r st' => r = (fX4_isIn st x0 x1 x2) ∧ st' = st) (ow_B D ca ad) A) 0 0 A := by
  refine Met.ofW (cc := cX4_isIn) (maxL := 3) (ret := (some .boolean)) (by decide) rfl ?_
  intro p e s m args below meth c s₁ B hml hv
  obtain ⟨rfl, hP, hC⟩ := hv
  have hx := B.exec
  have hb := B.bytes
  have hr := B.returns
  have hts := atoms_spec (ws := wsX4_isIn) B.pre
  have hown : s.vm.findClass RX4 = some m.cls := findClass_of_methodNamed B.named
  have hlocks := B.notSynchronized
  have hS : va_S A s.heap s.heap [] := va_S.rf
  have hl := lv_entry ([.int x0, .int x1, .int x2]) (n := 3) (Nat.le_of_ble_eq_true rfl)
  rw [lg_entry_eq]
  generalize (lg_sl ([.int x0, .int x1, .int x2]) ++ List.replicate (3 - (lg_sl ([.int x0, .int x1, .int x2])).length) Slot.unset).toArray = ls at hl ⊢
  have hl : lv_has ls 3 [(0, .int x0), (1, .int x1), (2, .int x2)] := hl
  refine lv_iload_n hx hb dX4_isIn_0 rfl (lv_at hl 0 rfl) ?_
  refine lv_iload_n hx hb dX4_isIn_1 rfl (lv_at hl 1 rfl) ?_
  refine lv_icmp_lt (tgt := 14) hx hb dX4_isIn_2 (by decide) (fun c_1 => ?_) (fun c_1 => ?_)
  · refine lv_iconst (v := 0) hx hb dX4_isIn_14 (by decide) ?_
    exact W.zret (v := 0) hx hb hr rfl (fun t ht hW => ⟨⟨0, st, rfl, ⟨(by simp only [fX4_isIn, if_pos c_1]), rfl⟩, ow_Bi ht hP⟩, hS.F ht⟩) hS.2.2 dX4_isIn_15
  · refine lv_iload_n hx hb dX4_isIn_5 rfl (lv_at hl 0 rfl) ?_
    refine lv_iload_n hx hb dX4_isIn_6 rfl (lv_at hl 2 rfl) ?_
    refine lv_icmp_gt (tgt := 14) hx hb dX4_isIn_7 (by decide) (fun c_2 => ?_) (fun c_2 => ?_)
    · refine lv_iconst (v := 0) hx hb dX4_isIn_14 (by decide) ?_
      exact W.zret (v := 0) hx hb hr rfl (fun t ht hW => ⟨⟨0, st, rfl, ⟨(by simp only [fX4_isIn, if_neg c_1, if_pos c_2]), rfl⟩, ow_Bi ht hP⟩, hS.F ht⟩) hS.2.2 dX4_isIn_15
    · refine lv_iconst (v := 1) hx hb dX4_isIn_10 (by decide) ?_
      refine lv_goto (tgt := 15) hx hb dX4_isIn_11 (by decide) ?_
      exact W.zret (v := 1) hx hb hr rfl (fun t ht hW => ⟨⟨1, st, rfl, ⟨(by simp only [fX4_isIn, if_neg c_1, if_neg c_2]), rfl⟩, ow_Bi ht hP⟩, hS.F ht⟩) hS.2.2 dX4_isIn_15

def fX4_isKind (st : ow_St) (x0 : Int32) : Int32 := (fX4_isIn st x0 0 2)
set_option maxHeartbeats 4000000 in
set_option maxRecDepth 100000 in
theorem kX4_isKind (l : Launch) (D : va_G) (ca : Nat → ClassId) (ad : ow_Ad) (A : Nat → Prop) (st : ow_St) (x0 : Int32) : Met l yX4_isKind wsX4_isKind ({ frames := 1, cells := 0, slots := 0, locals := 22 }) (va_Pc [.int x0] (ow_W D ca ad A st)) (va_Qi (fun r st' => r = (fX4_isKind st x0) ∧ st' = st) (ow_B D ca ad) A) 0 0 A := by
  refine Met.ofW (cc := cX4_isKind) (maxL := 1) (ret := (some .boolean)) (by decide) rfl ?_
  intro p e s m args below meth c s₁ B hml hv
  obtain ⟨rfl, hP, hC⟩ := hv
  have hx := B.exec
  have hb := B.bytes
  have hr := B.returns
  have hts := atoms_spec (ws := wsX4_isKind) B.pre
  have hown : s.vm.findClass RX4 = some m.cls := findClass_of_methodNamed B.named
  have hlocks := B.notSynchronized
  have hS : va_S A s.heap s.heap [] := va_S.rf
  have hl := lv_entry ([.int x0]) (n := 1) (Nat.le_of_ble_eq_true rfl)
  rw [lg_entry_eq]
  generalize (lg_sl ([.int x0]) ++ List.replicate (1 - (lg_sl ([.int x0])).length) Slot.unset).toArray = ls at hl ⊢
  have hl : lv_has ls 1 [(0, .int x0)] := hl
  refine lv_iload_n hx hb dX4_isKind_0 rfl (lv_at hl 0 rfl) ?_
  refine lv_iconst (v := 0) hx hb dX4_isKind_1 (by decide) ?_
  refine lv_iconst (v := 2) hx hb dX4_isKind_2 (by decide) ?_
  refine og_ciP (og_runS (As := [.int x0, .int 0, .int 2]) (rest := []) ⟨hx, hb, hml, hown, hts⟩ (kX4_isIn l D ca ad A st x0 0 2) (va_cwS 3 hts gX4_isKind_X4_isIn rfl rfl rfl (by decide +kernel) ⟨Nat.le_of_ble_eq_true rfl, Nat.le_of_ble_eq_true rfl⟩) hC hP hS rfl hl.1 rfl (Nat.le_of_ble_eq_true rfl) dX4_isKind_3 ⟨Nat.zero_le _, Nat.zero_le _⟩) hS (fun H locs hP hS => ?_)
  exact W.zret (v := (fX4_isIn st x0 0 2)) hx hb hr (by unfold fX4_isIn; (repeat' split) <;> rfl) (fun t ht hW => ⟨⟨(fX4_isIn st x0 0 2), st, rfl, ⟨(by simp only [fX4_isKind]), rfl⟩, ow_Bi ht hP⟩, hS.F ht⟩) hS.2.2 dX4_isKind_6

def fX4_isSet (st : ow_St) (x0 : Int32) : Int32 := (fX4_isIn st x0 0 9)
set_option maxHeartbeats 4000000 in
set_option maxRecDepth 100000 in
theorem kX4_isSet (l : Launch) (D : va_G) (ca : Nat → ClassId) (ad : ow_Ad) (A : Nat → Prop) (st : ow_St) (x0 : Int32) : Met l yX4_isSet wsX4_isSet ({ frames := 1, cells := 0, slots := 0, locals := 22 }) (va_Pc [.int x0] (ow_W D ca ad A st)) (va_Qi (fun r st' => r = (fX4_isSet st x0) ∧ st' = st) (ow_B D ca ad) A) 0 0 A := by
  refine Met.ofW (cc := cX4_isSet) (maxL := 1) (ret := (some .boolean)) (by decide) rfl ?_
  intro p e s m args below meth c s₁ B hml hv
  obtain ⟨rfl, hP, hC⟩ := hv
  have hx := B.exec
  have hb := B.bytes
  have hr := B.returns
  have hts := atoms_spec (ws := wsX4_isSet) B.pre
  have hown : s.vm.findClass RX4 = some m.cls := findClass_of_methodNamed B.named
  have hlocks := B.notSynchronized
  have hS : va_S A s.heap s.heap [] := va_S.rf
  have hl := lv_entry ([.int x0]) (n := 1) (Nat.le_of_ble_eq_true rfl)
  rw [lg_entry_eq]
  generalize (lg_sl ([.int x0]) ++ List.replicate (1 - (lg_sl ([.int x0])).length) Slot.unset).toArray = ls at hl ⊢
  have hl : lv_has ls 1 [(0, .int x0)] := hl
  refine lv_iload_n hx hb dX4_isSet_0 rfl (lv_at hl 0 rfl) ?_
  refine lv_iconst (v := 0) hx hb dX4_isSet_1 (by decide) ?_
  refine lv_bipush (v := 9) hx hb dX4_isSet_2 (by decide) ?_
  refine og_ciP (og_runS (As := [.int x0, .int 0, .int 9]) (rest := []) ⟨hx, hb, hml, hown, hts⟩ (kX4_isIn l D ca ad A st x0 0 9) (va_cwS 3 hts gX4_isSet_X4_isIn rfl rfl rfl (by decide +kernel) ⟨Nat.le_of_ble_eq_true rfl, Nat.le_of_ble_eq_true rfl⟩) hC hP hS rfl hl.1 rfl (Nat.le_of_ble_eq_true rfl) dX4_isSet_4 ⟨Nat.zero_le _, Nat.zero_le _⟩) hS (fun H locs hP hS => ?_)
  exact W.zret (v := (fX4_isIn st x0 0 9)) hx hb hr (by unfold fX4_isIn; (repeat' split) <;> rfl) (fun t ht hW => ⟨⟨(fX4_isIn st x0 0 9), st, rfl, ⟨(by simp only [fX4_isSet]), rfl⟩, ow_Bi ht hP⟩, hS.F ht⟩) hS.2.2 dX4_isSet_7

def fX4_isTable (st : ow_St) (x0 : Int32) : Int32 := (if x0 = 0 then 1 else (if x0 = 1 then 1 else 0))
set_option maxHeartbeats 4000000 in
set_option maxRecDepth 100000 in
theorem kX4_isTable (l : Launch) (D : va_G) (ca : Nat → ClassId) (ad : ow_Ad) (A : Nat → Prop) (st : ow_St) (x0 : Int32) : Met l yX4_isTable wsX4_isTable ({ frames := 0, cells := 0, slots := 0, locals := 0 }) (va_Pc [.int x0] (ow_W D ca ad A st)) (va_Qi (fun r st' => r = (fX4_isTable st x0) ∧ st' = st) (ow_B D ca ad) A) 0 0 A := by
  refine Met.ofW (cc := cX4_isTable) (maxL := 1) (ret := (some .boolean)) (by decide) rfl ?_
  intro p e s m args below meth c s₁ B hml hv
  obtain ⟨rfl, hP, hC⟩ := hv
  have hx := B.exec
  have hb := B.bytes
  have hr := B.returns
  have hts := atoms_spec (ws := wsX4_isTable) B.pre
  have hown : s.vm.findClass RX4 = some m.cls := findClass_of_methodNamed B.named
  have hlocks := B.notSynchronized
  have hS : va_S A s.heap s.heap [] := va_S.rf
  have hl := lv_entry ([.int x0]) (n := 1) (Nat.le_of_ble_eq_true rfl)
  rw [lg_entry_eq]
  generalize (lg_sl ([.int x0]) ++ List.replicate (1 - (lg_sl ([.int x0])).length) Slot.unset).toArray = ls at hl ⊢
  have hl : lv_has ls 1 [(0, .int x0)] := hl
  refine lv_iload_n hx hb dX4_isTable_0 rfl (lv_at hl 0 rfl) ?_
  refine lv_if_eq (tgt := 9) hx hb dX4_isTable_1 (by decide) (fun c_1 => ?_) (fun c_1 => ?_)
  · refine lv_iconst (v := 1) hx hb dX4_isTable_9 (by decide) ?_
    refine lv_goto (tgt := 14) hx hb dX4_isTable_10 (by decide) ?_
    exact W.zret (v := 1) hx hb hr rfl (fun t ht hW => ⟨⟨1, st, rfl, ⟨(by simp only [fX4_isTable, if_pos c_1]), rfl⟩, ow_Bi ht hP⟩, hS.F ht⟩) hS.2.2 dX4_isTable_14
  · refine lv_iload_n hx hb dX4_isTable_4 rfl (lv_at hl 0 rfl) ?_
    refine lv_iconst (v := 1) hx hb dX4_isTable_5 (by decide) ?_
    refine lv_icmp_ne (tgt := 13) hx hb dX4_isTable_6 (by decide) (fun c_2 => ?_) (fun c_2 => ?_)
    · refine lv_iconst (v := 0) hx hb dX4_isTable_13 (by decide) ?_
      exact W.zret (v := 0) hx hb hr rfl (fun t ht hW => ⟨⟨0, st, rfl, ⟨(by simp only [fX4_isTable, if_neg c_1, if_neg c_2]), rfl⟩, ow_Bi ht hP⟩, hS.F ht⟩) hS.2.2 dX4_isTable_14
    · refine lv_iconst (v := 1) hx hb dX4_isTable_9 (by decide) ?_
      refine lv_goto (tgt := 14) hx hb dX4_isTable_10 (by decide) ?_
      exact W.zret (v := 1) hx hb hr rfl (fun t ht hW => ⟨⟨1, st, rfl, ⟨(by simp only [fX4_isTable, if_neg c_1, if_pos c_2]), rfl⟩, ow_Bi ht hP⟩, hS.F ht⟩) hS.2.2 dX4_isTable_14

theorem isIn_t {st : ow_St} {x a b : Int32} (h : ¬ fX4_isIn st x a b = 0) : a ≤ x ∧ x ≤ b := by
  unfold fX4_isIn at h
  by_cases c1 : x < a
  · rw [if_pos c1] at h
    exact absurd rfl h
  · rw [if_neg c1] at h
    by_cases c2 : b < x
    · rw [if_pos c2] at h
      exact absurd rfl h
    · exact ⟨Int32.not_lt.mp c1, Int32.not_lt.mp c2⟩
theorem le_in {x b : Int32} {n : Nat} (hb : b = nI n) (hn : n < 2 ^ 31 - 1) (h : 0 ≤ x ∧ x ≤ b) : vp_in x (n + 1) := by
  subst hb
  obtain ⟨j, hj, rfl⟩ := nI_of (Int32.not_lt.mpr h.1)
  exact vp_in_nI (by have := (nI_leI hj (by omega)).mp h.2; omega) (by omega)
theorem isK_in {st : ow_St} {x : Int32} (h : ¬ fX4_isKind st x = 0) : vp_in x 3 := le_in (n := 2) rfl (by decide) (isIn_t h)
theorem isS_in {st : ow_St} {x : Int32} (h : ¬ fX4_isSet st x = 0) : vp_in x 10 := le_in (n := 9) rfl (by decide) (isIn_t h)
theorem isT_0 {st : ow_St} : ¬ fX4_isTable st 0 = 0 := by simp [fX4_isTable]
theorem isT_1 {st : ow_St} : ¬ fX4_isTable st 1 = 0 := by simp [fX4_isTable]
theorem isT_n {st : ow_St} {x : Int32} (h0 : ¬ x = 0) (h1 : ¬ x = 1) : fX4_isTable st x = 0 := by simp [fX4_isTable, h0, h1]
theorem in3 {x : Int32} (h : vp_in x 3) : x = 0 ∨ x = 1 ∨ x = 2 := by
  obtain ⟨j, hj, rfl⟩ := vp_in_of h (by decide)
  rcases (show j = 0 ∨ j = 1 ∨ j = 2 by omega) with rfl | rfl | rfl
  · exact Or.inl rfl
  · exact Or.inr (Or.inl rfl)
  · exact Or.inr (Or.inr rfl)

theorem li_X4_isCode_X4 : ∀ w ∈ u_ws RX4 TX4 19, w ∈ wsX4_isCode := by decide +kernel
theorem lk_X4_isCode_1 : (.fieldLink RX4 7 "RecordLabelsModel" "many" "[I" : Cond) ∈ wsX4_isCode := by decide +kernel
def fX4_isCode (st : ow_St) (x1 x2 : Int32) : Int32 := (fX4_isIn st x2 0 ((ow_mny x1.toNatClampNeg) - 1))
set_option maxHeartbeats 4000000 in
set_option maxRecDepth 100000 in
theorem kX4_isCode (l : Launch) (D : va_G) (ca : Nat → ClassId) (ad : ow_Ad) (A : Nat → Prop) (st : ow_St) (x1 : Int32) (x2 : Int32) (hk : vp_in x1 3) : Met l yX4_isCode wsX4_isCode ({ frames := 1, cells := 0, slots := 0, locals := 22 }) (va_Pc [.ref (ad 10 0), .int x1, .int x2] (ow_W D ca ad A st)) (va_Qi (fun r st' => r = (fX4_isCode st x1 x2) ∧ st' = st) (ow_B D ca ad) A) 0 0 A := by
  refine Met.ofW (cc := cX4_isCode) (maxL := 3) (ret := (some .boolean)) (by decide) rfl ?_
  intro p e s m args below meth c s₁ B hml hv
  obtain ⟨rfl, hP, hC⟩ := hv
  have hx := B.exec
  have hb := B.bytes
  have hr := B.returns
  have hts := atoms_spec (ws := wsX4_isCode) B.pre
  have hown : s.vm.findClass RX4 = some m.cls := findClass_of_methodNamed B.named
  have hlocks := B.notSynchronized
  have hS : va_S A s.heap s.heap [] := va_S.rf
  have hl := lv_entry ([.ref (ad 10 0), .int x1, .int x2]) (n := 3) (Nat.le_of_ble_eq_true rfl)
  rw [lg_entry_eq]
  generalize (lg_sl ([.ref (ad 10 0), .int x1, .int x2]) ++ List.replicate (3 - (lg_sl ([.ref (ad 10 0), .int x1, .int x2])).length) Slot.unset).toArray = ls at hl ⊢
  have hl : lv_has ls 3 [(0, .ref (ad 10 0)), (1, .int x1), (2, .int x2)] := hl
  refine lv_iload_n hx hb dX4_isCode_0 rfl (lv_at hl 2 rfl) ?_
  refine lv_iconst (v := 0) hx hb dX4_isCode_1 (by decide) ?_
  refine lv_aload_n hx hb dX4_isCode_2 rfl (lv_at hl 0 rfl) ?_
  refine og_get (C := RX4) (T := TX4) (N := 19) (g := 10) (i := 0) (v := .ref (ad 11 0)) hx hb hts li_X4_isCode_X4 hown hC hP (ow_q10_0) rfl rfl 0 (by decide) (hts _ lk_X4_isCode_1) rfl rfl dX4_isCode_3 ?_
  refine lv_iload_n hx hb dX4_isCode_6 rfl (lv_at hl 1 rfl) ?_
  refine og_iald (g := 11) (i := 0) (j := x1.toNatClampNeg) (v := (ow_mny x1.toNatClampNeg)) hx hb hC hP (ow_q11_0) rfl hk rfl rfl dX4_isCode_7 ?_
  refine lv_iconst (v := 1) hx hb dX4_isCode_8 (by decide) ?_
  refine lv_isub hx hb dX4_isCode_9 ?_
  refine og_ciP (og_runS (As := [.int x2, .int 0, .int ((ow_mny x1.toNatClampNeg) - 1)]) (rest := []) ⟨hx, hb, hml, hown, hts⟩ (kX4_isIn l D ca ad A st x2 0 ((ow_mny x1.toNatClampNeg) - 1)) (va_cwS 3 hts gX4_isCode_X4_isIn rfl rfl rfl (by decide +kernel) ⟨Nat.le_of_ble_eq_true rfl, Nat.le_of_ble_eq_true rfl⟩) hC hP hS rfl hl.1 rfl (Nat.le_of_ble_eq_true rfl) dX4_isCode_10 ⟨Nat.zero_le _, Nat.zero_le _⟩) hS (fun H locs hP hS => ?_)
  exact W.zret (v := (fX4_isIn st x2 0 ((ow_mny x1.toNatClampNeg) - 1))) hx hb hr (by unfold fX4_isIn; (repeat' split) <;> rfl) (fun t ht hW => ⟨⟨(fX4_isIn st x2 0 ((ow_mny x1.toNatClampNeg) - 1)), st, rfl, ⟨(by simp only [fX4_isCode]), rfl⟩, ow_Bi ht hP⟩, hS.F ht⟩) hS.2.2 dX4_isCode_13

theorem mny_eq {j : Nat} (h : j < 3) : ow_mny j = nI (mn j) := by
  rcases (show j = 0 ∨ j = 1 ∨ j = 2 by omega) with rfl | rfl | rfl <;> rfl
theorem isC_in {st : ow_St} {x y : Int32} (hk : vp_in x 3) (h : ¬ fX4_isCode st x y = 0) : vp_in y (mn x.toNatClampNeg) := by
  have h2 := isIn_t h
  rcases in3 hk with rfl | rfl | rfl
  · exact le_in (n := 4) rfl (by decide) h2
  · exact le_in (n := 6) rfl (by decide) h2
  · exact le_in (n := 25) rfl (by decide) h2
theorem ix_in {x y : Int32} (hk : vp_in x 3) (h : vp_in y (mn x.toNatClampNeg)) : vp_in (26 * x + y) 78 := by
  rcases in3 hk with rfl | rfl | rfl
  · obtain ⟨j, hj, rfl⟩ := vp_in_of h (by decide)
    rw [show (26 : Int32) * 0 + nI j = nI (0 + j) from (nI_add 0 j)]
    exact vp_in_nI (by have : j < 5 := hj; omega) (by decide)
  · obtain ⟨j, hj, rfl⟩ := vp_in_of h (by decide)
    rw [show (26 : Int32) * 1 + nI j = nI (26 + j) from (nI_add 26 j)]
    exact vp_in_nI (by have : j < 7 := hj; omega) (by decide)
  · obtain ⟨j, hj, rfl⟩ := vp_in_of h (by decide)
    rw [show (26 : Int32) * 2 + nI j = nI (52 + j) from (nI_add 52 j)]
    exact vp_in_nI (by have : j < 26 := hj; omega) (by decide)
theorem nm_in {x y : Int32} (hk : vp_in x 3) (h : vp_in y (mn x.toNatClampNeg)) (h2 : ¬ x = 2) : vp_in (5 * x + y) 12 := by
  rcases in3 hk with rfl | rfl | rfl
  · obtain ⟨j, hj, rfl⟩ := vp_in_of h (by decide)
    rw [show (5 : Int32) * 0 + nI j = nI (0 + j) from (nI_add 0 j)]
    exact vp_in_nI (by have : j < 5 := hj; omega) (by decide)
  · obtain ⟨j, hj, rfl⟩ := vp_in_of h (by decide)
    rw [show (5 : Int32) * 1 + nI j = nI (5 + j) from (nI_add 5 j)]
    exact vp_in_nI (by have : j < 7 := hj; omega) (by decide)
  · exact absurd rfl h2
/-- the reference's constants are constants -/
def iv_mc (st : ow_St) : Prop := ∀ x y : Int32, vp_in x 3 → vp_in y (mn x.toNatClampNeg) → vp_in (st.1 51 (26 * x + y).toNatClampNeg) (mn x.toNatClampNeg)
def iv_ms (st : ow_St) : Prop := ∀ j, j < 10 → vp_in (st.1 54 j) 3
def iv_mz (st : ow_St) (t : Nat) : Prop := ∃ n, n ≤ 30 ∧ st.1 56 t = nI n
def iv_mf (st : ow_St) : Prop := ∃ n, n ≤ 30 ∧ st.1 61 3 = nI n

theorem li_X4_constant_X4 : ∀ w ∈ u_ws RX4 TX4 19, w ∈ wsX4_constant := by decide +kernel
theorem lk_X4_constant_1 : (.fieldLink RX4 44 "RecordLabelsModel" "constantOf" "[I" : Cond) ∈ wsX4_constant := by decide +kernel
def fX4_constant (st : ow_St) (x1 x2 : Int32) : Int32 := (if (fX4_isCode st x1 x2) = 0 then (-1) else (st.1 51 (((26 * x1) + x2).toNatClampNeg)))
set_option maxHeartbeats 4000000 in
set_option maxRecDepth 100000 in
theorem kX4_constant (l : Launch) (D : va_G) (ca : Nat → ClassId) (ad : ow_Ad) (A : Nat → Prop) (st : ow_St) (x1 : Int32) (x2 : Int32) (hk : vp_in x1 3) : Met l yX4_constant wsX4_constant ({ frames := 2, cells := 0, slots := 0, locals := 44 }) (va_Pc [.ref (ad 10 0), .int x1, .int x2] (ow_W D ca ad A st)) (va_Qi (fun r st' => r = (fX4_constant st x1 x2) ∧ st' = st) (ow_B D ca ad) A) 0 0 A := by
  refine Met.ofW (cc := cX4_constant) (maxL := 3) (ret := (some .int)) (by decide) rfl ?_
  intro p e s m args below meth c s₁ B hml hv
  obtain ⟨rfl, hP, hC⟩ := hv
  have hx := B.exec
  have hb := B.bytes
  have hr := B.returns
  have hts := atoms_spec (ws := wsX4_constant) B.pre
  have hown : s.vm.findClass RX4 = some m.cls := findClass_of_methodNamed B.named
  have hlocks := B.notSynchronized
  have hS : va_S A s.heap s.heap [] := va_S.rf
  have hl := lv_entry ([.ref (ad 10 0), .int x1, .int x2]) (n := 3) (Nat.le_of_ble_eq_true rfl)
  rw [lg_entry_eq]
  generalize (lg_sl ([.ref (ad 10 0), .int x1, .int x2]) ++ List.replicate (3 - (lg_sl ([.ref (ad 10 0), .int x1, .int x2])).length) Slot.unset).toArray = ls at hl ⊢
  have hl : lv_has ls 3 [(0, .ref (ad 10 0)), (1, .int x1), (2, .int x2)] := hl
  refine lv_aload_n hx hb dX4_constant_0 rfl (lv_at hl 0 rfl) ?_
  refine lv_iload_n hx hb dX4_constant_1 rfl (lv_at hl 1 rfl) ?_
  refine lv_iload_n hx hb dX4_constant_2 rfl (lv_at hl 2 rfl) ?_
  refine og_ciP (og_runV (C := RX4) (T := TX4) (N := 19) (g := 10) (i := 0) (As := [.int x1, .int x2]) (rest := []) ⟨hx, hb, hml, hown, hts⟩ (kX4_isCode l D ca ad A st x1 x2 hk) (cwV 2 hts gX4_constant_X4_isCode rfl rfl rfl (by decide +kernel) ⟨Nat.le_of_ble_eq_true rfl, Nat.le_of_ble_eq_true rfl⟩) hC hP hS (ow_q10_0) rfl rfl rfl hl.1 rfl (Nat.le_of_ble_eq_true rfl) dX4_constant_3 ⟨Nat.zero_le _, Nat.zero_le _⟩) hS (fun H locs hP hS => ?_)
  refine lv_if_eq (tgt := 23) hx hb dX4_constant_6 (by decide) (fun c_1 => ?_) (fun c_1 => ?_)
  · refine lv_iconst (v := (-1)) hx hb dX4_constant_23 (by decide) ?_
    exact W.iret (v := (-1)) hx hb hr (fun t ht hW => ⟨⟨(-1), st, rfl, ⟨(by simp only [fX4_constant, if_pos c_1]), rfl⟩, ow_Bi ht hP⟩, hS.F ht⟩) hS.2.2 dX4_constant_24
  · refine lv_aload_n hx hb dX4_constant_9 rfl (lv_at hl 0 rfl) ?_
    refine og_get (C := RX4) (T := TX4) (N := 19) (g := 10) (i := 0) (v := .ref (ad 11 3)) hx hb hts li_X4_constant_X4 hown hC hP (ow_q10_0) rfl rfl 3 (by decide) (hts _ lk_X4_constant_1) rfl rfl dX4_constant_10 ?_
    refine lv_bipush (v := 26) hx hb dX4_constant_13 (by decide) ?_
    refine lv_iload_n hx hb dX4_constant_15 rfl (lv_at hl 1 rfl) ?_
    refine lv_imul hx hb dX4_constant_16 ?_
    refine lv_iload_n hx hb dX4_constant_17 rfl (lv_at hl 2 rfl) ?_
    refine lv_iadd hx hb dX4_constant_18 ?_
    refine og_iald (g := 11) (i := 3) (j := (((26 * x1) + x2).toNatClampNeg)) (v := (st.1 51 (((26 * x1) + x2).toNatClampNeg))) hx hb hC hP (ow_q11_3) rfl (ix_in hk (isC_in hk c_1)) rfl rfl dX4_constant_19 ?_
    refine lv_goto (tgt := 24) hx hb dX4_constant_20 (by decide) ?_
    exact W.iret (v := (st.1 51 (((26 * x1) + x2).toNatClampNeg))) hx hb hr (fun t ht hW => ⟨⟨(st.1 51 (((26 * x1) + x2).toNatClampNeg)), st, rfl, ⟨(by simp only [fX4_constant, if_neg c_1]), rfl⟩, ow_Bi ht hP⟩, hS.F ht⟩) hS.2.2 dX4_constant_24

theorem li_X4_codeNow_X4 : ∀ w ∈ u_ws RX4 TX4 19, w ∈ wsX4_codeNow := by decide +kernel
theorem lk_X4_codeNow_1 : (.fieldLink RX4 41 "RecordLabelsModel" "codeOf" "[I" : Cond) ∈ wsX4_codeNow := by decide +kernel
def fX4_codeNow (st : ow_St) (x1 x2 : Int32) : Int32 := (if x2 = (-1) then (-1) else (st.1 50 (((26 * x1) + x2).toNatClampNeg)))
set_option maxHeartbeats 4000000 in
set_option maxRecDepth 100000 in
theorem kX4_codeNow (l : Launch) (D : va_G) (ca : Nat → ClassId) (ad : ow_Ad) (A : Nat → Prop) (st : ow_St) (x1 : Int32) (x2 : Int32) (hi : ¬ x2 = (-1) → vp_in (26 * x1 + x2) 78) : Met l yX4_codeNow wsX4_codeNow ({ frames := 0, cells := 0, slots := 0, locals := 0 }) (va_Pc [.ref (ad 10 0), .int x1, .int x2] (ow_W D ca ad A st)) (va_Qi (fun r st' => r = (fX4_codeNow st x1 x2) ∧ st' = st) (ow_B D ca ad) A) 0 0 A := by
  refine Met.ofW (cc := cX4_codeNow) (maxL := 3) (ret := (some .int)) (by decide) rfl ?_
  intro p e s m args below meth c s₁ B hml hv
  obtain ⟨rfl, hP, hC⟩ := hv
  have hx := B.exec
  have hb := B.bytes
  have hr := B.returns
  have hts := atoms_spec (ws := wsX4_codeNow) B.pre
  have hown : s.vm.findClass RX4 = some m.cls := findClass_of_methodNamed B.named
  have hlocks := B.notSynchronized
  have hS : va_S A s.heap s.heap [] := va_S.rf
  have hl := lv_entry ([.ref (ad 10 0), .int x1, .int x2]) (n := 3) (Nat.le_of_ble_eq_true rfl)
  rw [lg_entry_eq]
  generalize (lg_sl ([.ref (ad 10 0), .int x1, .int x2]) ++ List.replicate (3 - (lg_sl ([.ref (ad 10 0), .int x1, .int x2])).length) Slot.unset).toArray = ls at hl ⊢
  have hl : lv_has ls 3 [(0, .ref (ad 10 0)), (1, .int x1), (2, .int x2)] := hl
  refine lv_iload_n hx hb dX4_codeNow_0 rfl (lv_at hl 2 rfl) ?_
  refine lv_iconst (v := (-1)) hx hb dX4_codeNow_1 (by decide) ?_
  refine lv_icmp_ne (tgt := 9) hx hb dX4_codeNow_2 (by decide) (fun c_1 => ?_) (fun c_1 => ?_)
  · refine lv_aload_n hx hb dX4_codeNow_9 rfl (lv_at hl 0 rfl) ?_
    refine og_get (C := RX4) (T := TX4) (N := 19) (g := 10) (i := 0) (v := .ref (ad 11 2)) hx hb hts li_X4_codeNow_X4 hown hC hP (ow_q10_0) rfl rfl 2 (by decide) (hts _ lk_X4_codeNow_1) rfl rfl dX4_codeNow_10 ?_
    refine lv_bipush (v := 26) hx hb dX4_codeNow_13 (by decide) ?_
    refine lv_iload_n hx hb dX4_codeNow_15 rfl (lv_at hl 1 rfl) ?_
    refine lv_imul hx hb dX4_codeNow_16 ?_
    refine lv_iload_n hx hb dX4_codeNow_17 rfl (lv_at hl 2 rfl) ?_
    refine lv_iadd hx hb dX4_codeNow_18 ?_
    refine og_iald (g := 11) (i := 2) (j := (((26 * x1) + x2).toNatClampNeg)) (v := (st.1 50 (((26 * x1) + x2).toNatClampNeg))) hx hb hC hP (ow_q11_2) rfl (hi c_1) rfl rfl dX4_codeNow_19 ?_
    exact W.iret (v := (st.1 50 (((26 * x1) + x2).toNatClampNeg))) hx hb hr (fun t ht hW => ⟨⟨(st.1 50 (((26 * x1) + x2).toNatClampNeg)), st, rfl, ⟨(by simp only [fX4_codeNow, if_neg c_1]), rfl⟩, ow_Bi ht hP⟩, hS.F ht⟩) hS.2.2 dX4_codeNow_20
  · refine lv_iconst (v := (-1)) hx hb dX4_codeNow_5 (by decide) ?_
    refine lv_goto (tgt := 20) hx hb dX4_codeNow_6 (by decide) ?_
    exact W.iret (v := (-1)) hx hb hr (fun t ht hW => ⟨⟨(-1), st, rfl, ⟨(by simp only [fX4_codeNow, if_pos c_1]), rfl⟩, ow_Bi ht hP⟩, hS.F ht⟩) hS.2.2 dX4_codeNow_20

theorem lk_X4_nameOf_0 : (.constantLong RX4 87 (97) : Cond) ∈ wsX4_nameOf := by decide +kernel
theorem li_X4_nameOf_X4 : ∀ w ∈ u_ws RX4 TX4 19, w ∈ wsX4_nameOf := by decide +kernel
theorem lk_X4_nameOf_2 : (.fieldLink RX4 37 "RecordLabelsModel" "names" "[J" : Cond) ∈ wsX4_nameOf := by decide +kernel
def fX4_nameOf (st : ow_St) (x1 x2 : Int32) : Int64 := (if x1 = 2 then (97 + (x2.toInt64)) else (ow_nmM (((5 * x1) + x2).toNatClampNeg)))
set_option maxHeartbeats 4000000 in
set_option maxRecDepth 100000 in
theorem kX4_nameOf (l : Launch) (D : va_G) (ca : Nat → ClassId) (ad : ow_Ad) (A : Nat → Prop) (st : ow_St) (x1 : Int32) (x2 : Int32) (hi : ¬ x1 = 2 → vp_in (5 * x1 + x2) 12) : Met l yX4_nameOf wsX4_nameOf ({ frames := 0, cells := 0, slots := 0, locals := 0 }) (va_Pc [.ref (ad 10 0), .int x1, .int x2] (ow_W D ca ad A st)) (va_Ql (fun r st' => r = (fX4_nameOf st x1 x2) ∧ st' = st) (ow_B D ca ad) A) 0 0 A := by
  refine Met.ofW (cc := cX4_nameOf) (maxL := 3) (ret := (some .long)) (by decide) rfl ?_
  intro p e s m args below meth c s₁ B hml hv
  obtain ⟨rfl, hP, hC⟩ := hv
  have hx := B.exec
  have hb := B.bytes
  have hr := B.returns
  have hts := atoms_spec (ws := wsX4_nameOf) B.pre
  have hown : s.vm.findClass RX4 = some m.cls := findClass_of_methodNamed B.named
  have hlocks := B.notSynchronized
  have hS : va_S A s.heap s.heap [] := va_S.rf
  have hl := lv_entry ([.ref (ad 10 0), .int x1, .int x2]) (n := 3) (Nat.le_of_ble_eq_true rfl)
  rw [lg_entry_eq]
  generalize (lg_sl ([.ref (ad 10 0), .int x1, .int x2]) ++ List.replicate (3 - (lg_sl ([.ref (ad 10 0), .int x1, .int x2])).length) Slot.unset).toArray = ls at hl ⊢
  have hl : lv_has ls 3 [(0, .ref (ad 10 0)), (1, .int x1), (2, .int x2)] := hl
  refine lv_iload_n hx hb dX4_nameOf_0 rfl (lv_at hl 1 rfl) ?_
  refine lv_iconst (v := 2) hx hb dX4_nameOf_1 (by decide) ?_
  refine lv_icmp_ne (tgt := 14) hx hb dX4_nameOf_2 (by decide) (fun c_1 => ?_) (fun c_1 => ?_)
  · refine lv_aload_n hx hb dX4_nameOf_14 rfl (lv_at hl 0 rfl) ?_
    refine og_get (C := RX4) (T := TX4) (N := 19) (g := 10) (i := 0) (v := .ref (ad 11 1)) hx hb hts li_X4_nameOf_X4 hown hC hP (ow_q10_0) rfl rfl 1 (by decide) (hts _ lk_X4_nameOf_2) rfl rfl dX4_nameOf_15 ?_
    refine lv_iconst (v := 5) hx hb dX4_nameOf_18 (by decide) ?_
    refine lv_iload_n hx hb dX4_nameOf_19 rfl (lv_at hl 1 rfl) ?_
    refine lv_imul hx hb dX4_nameOf_20 ?_
    refine lv_iload_n hx hb dX4_nameOf_21 rfl (lv_at hl 2 rfl) ?_
    refine lv_iadd hx hb dX4_nameOf_22 ?_
    refine og_lald (g := 11) (i := 1) (j := (((5 * x1) + x2).toNatClampNeg)) (v := (ow_nmM (((5 * x1) + x2).toNatClampNeg))) hx hb hC hP (ow_q11_1) rfl (hi c_1) rfl rfl dX4_nameOf_23 ?_
    exact W.lret (v := (ow_nmM (((5 * x1) + x2).toNatClampNeg))) hx hb hr (fun t ht hW => ⟨⟨(ow_nmM (((5 * x1) + x2).toNatClampNeg)), st, rfl, ⟨(by simp only [fX4_nameOf, if_neg c_1]), rfl⟩, ow_Bi ht hP⟩, hS.F ht⟩) hS.2.2 dX4_nameOf_24
  · refine lv_ldc2 (v := 97) hx hb hown (hts _ lk_X4_nameOf_0) dX4_nameOf_5 ?_
    refine lv_iload_n hx hb dX4_nameOf_8 rfl (lv_at hl 2 rfl) ?_
    refine lv_i2l (v := x2.toInt64) hx hb dX4_nameOf_9 rfl ?_
    refine lv_ladd hx hb dX4_nameOf_10 ?_
    refine lv_goto (tgt := 24) hx hb dX4_nameOf_11 (by decide) ?_
    exact W.lret (v := (97 + (x2.toInt64))) hx hb hr (fun t ht hW => ⟨⟨(97 + (x2.toInt64)), st, rfl, ⟨(by simp only [fX4_nameOf, if_pos c_1]), rfl⟩, ow_Bi ht hP⟩, hS.F ht⟩) hS.2.2 dX4_nameOf_24

theorem li_X4_lost_X4 : ∀ w ∈ u_ws RX4 TX4 19, w ∈ wsX4_lost := by decide +kernel
theorem lk_X4_lost_1 : (.fieldLink RX4 117 "RecordLabelsModel" "failures" "I" : Cond) ∈ wsX4_lost := by decide +kernel
def fX4_lost (st : ow_St) (x1 : Int32) : Int32 × ow_St := (let st1 := (ow_si st 61 0 ((st.1 61 0) + 1)); (x1, st1))
set_option maxHeartbeats 4000000 in
set_option maxRecDepth 100000 in
theorem kX4_lost (l : Launch) (D : va_G) (ca : Nat → ClassId) (ad : ow_Ad) (A : Nat → Prop) (st : ow_St) (x1 : Int32) : Met l yX4_lost wsX4_lost ({ frames := 0, cells := 0, slots := 0, locals := 0 }) (va_Pc [.ref (ad 10 0), .int x1] (ow_W D ca ad A st)) (va_Qi (fun r st' => (r, st') = (fX4_lost st x1)) (ow_B D ca ad) A) 0 0 A := by
  refine Met.ofW (cc := cX4_lost) (maxL := 2) (ret := (some .int)) (by decide) rfl ?_
  intro p e s m args below meth c s₁ B hml hv
  obtain ⟨rfl, hP, hC⟩ := hv
  have hx := B.exec
  have hb := B.bytes
  have hr := B.returns
  have hts := atoms_spec (ws := wsX4_lost) B.pre
  have hown : s.vm.findClass RX4 = some m.cls := findClass_of_methodNamed B.named
  have hlocks := B.notSynchronized
  have hS : va_S A s.heap s.heap [] := va_S.rf
  have hl := lv_entry ([.ref (ad 10 0), .int x1]) (n := 2) (Nat.le_of_ble_eq_true rfl)
  rw [lg_entry_eq]
  generalize (lg_sl ([.ref (ad 10 0), .int x1]) ++ List.replicate (2 - (lg_sl ([.ref (ad 10 0), .int x1])).length) Slot.unset).toArray = ls at hl ⊢
  have hl : lv_has ls 2 [(0, .ref (ad 10 0)), (1, .int x1)] := hl
  refine lv_aload_n hx hb dX4_lost_0 rfl (lv_at hl 0 rfl) ?_
  refine lv_dup hx hb dX4_lost_1 rfl ?_
  refine og_get (C := RX4) (T := TX4) (N := 19) (g := 10) (i := 0) (v := .int (st.1 61 0)) hx hb hts li_X4_lost_X4 hown hC hP (ow_q10_0) rfl rfl 7 (by decide) (hts _ lk_X4_lost_1) rfl rfl dX4_lost_2 ?_
  refine lv_iconst (v := 1) hx hb dX4_lost_5 (by decide) ?_
  refine lv_iadd hx hb dX4_lost_6 ?_
  refine og_put (C := RX4) (T := TX4) (N := 19) (g := 10) (i := 0) (v := .int ((st.1 61 0) + 1)) (ty := .int) hx hb hts li_X4_lost_X4 tyX4 tyX4_ok nmX4 hown hC hP hS (ow_q10_0) rfl rfl 7 (by decide) (hts _ lk_X4_lost_1) rfl rfl (by decide +kernel) rfl rfl (Nat.le_of_ble_eq_true rfl) (we_10_0 st ((st.1 61 0) + 1)) dX4_lost_7 (fun H locs hP hS => ?_)
  obtain ⟨st1, e1⟩ : ∃ z, z = (ow_si st 61 0 ((st.1 61 0) + 1)) := ⟨_, rfl⟩
  rw [← e1] at hP
  refine lv_iload_n hx hb dX4_lost_10 rfl (lv_at hl 1 rfl) ?_
  exact W.iret (v := x1) hx hb hr (fun t ht hW => ⟨⟨x1, st1, rfl, (by subst e1; simp only [fX4_lost]), ow_Bi ht hP⟩, hS.F ht⟩) hS.2.2 dX4_lost_11

theorem li_X4_begin_X4 : ∀ w ∈ u_ws RX4 TX4 19, w ∈ wsX4_begin := by decide +kernel
theorem lk_X4_begin_1 : (.fieldLink RX4 47 "RecordLabelsModel" "state" "[I" : Cond) ∈ wsX4_begin := by decide +kernel
theorem lk_X4_begin_2 : (.fieldLink RX4 50 "RecordLabelsModel" "fails" "[Z" : Cond) ∈ wsX4_begin := by decide +kernel
def fX4_begin (st : ow_St) (x1 : Int32) : Int32 × ow_St := (if (st.1 52 x1.toNatClampNeg) = 0 then (if (st.1 53 x1.toNatClampNeg) = 0 then (let st3 := (ow_si st 52 x1.toNatClampNeg 1); (if (st3.1 53 x1.toNatClampNeg) = 0 then (0, st3) else ((-8), st3))) else (let st5 := (ow_si st 52 x1.toNatClampNeg 2); (if (st5.1 53 x1.toNatClampNeg) = 0 then (0, st5) else ((-8), st5)))) else (if (st.1 52 x1.toNatClampNeg) = 2 then ((-9), st) else (0, st)))
set_option maxHeartbeats 4000000 in
set_option maxRecDepth 100000 in
theorem kX4_begin (l : Launch) (D : va_G) (ca : Nat → ClassId) (ad : ow_Ad) (A : Nat → Prop) (st : ow_St) (x1 : Int32) (hk : vp_in x1 3) : Met l yX4_begin wsX4_begin ({ frames := 0, cells := 0, slots := 0, locals := 0 }) (va_Pc [.ref (ad 10 0), .int x1] (ow_W D ca ad A st)) (va_Qi (fun r st' => (r, st') = (fX4_begin st x1)) (ow_B D ca ad) A) 0 0 A := by
  refine Met.ofW (cc := cX4_begin) (maxL := 2) (ret := (some .int)) (by decide) rfl ?_
  intro p e s m args below meth c s₁ B hml hv
  obtain ⟨rfl, hP, hC⟩ := hv
  have hx := B.exec
  have hb := B.bytes
  have hr := B.returns
  have hts := atoms_spec (ws := wsX4_begin) B.pre
  have hown : s.vm.findClass RX4 = some m.cls := findClass_of_methodNamed B.named
  have hlocks := B.notSynchronized
  have hS : va_S A s.heap s.heap [] := va_S.rf
  have hl := lv_entry ([.ref (ad 10 0), .int x1]) (n := 2) (Nat.le_of_ble_eq_true rfl)
  rw [lg_entry_eq]
  generalize (lg_sl ([.ref (ad 10 0), .int x1]) ++ List.replicate (2 - (lg_sl ([.ref (ad 10 0), .int x1])).length) Slot.unset).toArray = ls at hl ⊢
  have hl : lv_has ls 2 [(0, .ref (ad 10 0)), (1, .int x1)] := hl
  refine lv_aload_n hx hb dX4_begin_0 rfl (lv_at hl 0 rfl) ?_
  refine og_get (C := RX4) (T := TX4) (N := 19) (g := 10) (i := 0) (v := .ref (ad 11 4)) hx hb hts li_X4_begin_X4 hown hC hP (ow_q10_0) rfl rfl 4 (by decide) (hts _ lk_X4_begin_1) rfl rfl dX4_begin_1 ?_
  refine lv_iload_n hx hb dX4_begin_4 rfl (lv_at hl 1 rfl) ?_
  refine og_iald (g := 11) (i := 4) (j := x1.toNatClampNeg) (v := (st.1 52 x1.toNatClampNeg)) hx hb hC hP (ow_q11_4) rfl hk rfl rfl dX4_begin_5 ?_
  refine lv_if_ne (tgt := 45) hx hb dX4_begin_6 (by decide) (fun c_1 => ?_) (fun c_1 => ?_)
  · refine lv_aload_n hx hb dX4_begin_45 rfl (lv_at hl 0 rfl) ?_
    refine og_get (C := RX4) (T := TX4) (N := 19) (g := 10) (i := 0) (v := .ref (ad 11 4)) hx hb hts li_X4_begin_X4 hown hC hP (ow_q10_0) rfl rfl 4 (by decide) (hts _ lk_X4_begin_1) rfl rfl dX4_begin_46 ?_
    refine lv_iload_n hx hb dX4_begin_49 rfl (lv_at hl 1 rfl) ?_
    refine og_iald (g := 11) (i := 4) (j := x1.toNatClampNeg) (v := (st.1 52 x1.toNatClampNeg)) hx hb hC hP (ow_q11_4) rfl hk rfl rfl dX4_begin_50 ?_
    refine lv_iconst (v := 2) hx hb dX4_begin_51 (by decide) ?_
    refine lv_icmp_ne (tgt := 60) hx hb dX4_begin_52 (by decide) (fun c_7 => ?_) (fun c_7 => ?_)
    · refine lv_iconst (v := 0) hx hb dX4_begin_60 (by decide) ?_
      exact W.iret (v := 0) hx hb hr (fun t ht hW => ⟨⟨0, st, rfl, (by simp only [fX4_begin, if_neg c_1, if_neg c_7]), ow_Bi ht hP⟩, hS.F ht⟩) hS.2.2 dX4_begin_61
    · refine lv_bipush (v := (-9)) hx hb dX4_begin_55 (by decide) ?_
      refine lv_goto (tgt := 61) hx hb dX4_begin_57 (by decide) ?_
      exact W.iret (v := (-9)) hx hb hr (fun t ht hW => ⟨⟨(-9), st, rfl, (by simp only [fX4_begin, if_neg c_1, if_pos c_7]), ow_Bi ht hP⟩, hS.F ht⟩) hS.2.2 dX4_begin_61
  · refine lv_aload_n hx hb dX4_begin_9 rfl (lv_at hl 0 rfl) ?_
    refine og_get (C := RX4) (T := TX4) (N := 19) (g := 10) (i := 0) (v := .ref (ad 11 4)) hx hb hts li_X4_begin_X4 hown hC hP (ow_q10_0) rfl rfl 4 (by decide) (hts _ lk_X4_begin_1) rfl rfl dX4_begin_10 ?_
    refine lv_iload_n hx hb dX4_begin_13 rfl (lv_at hl 1 rfl) ?_
    refine lv_aload_n hx hb dX4_begin_14 rfl (lv_at hl 0 rfl) ?_
    refine og_get (C := RX4) (T := TX4) (N := 19) (g := 10) (i := 0) (v := .ref (ad 11 5)) hx hb hts li_X4_begin_X4 hown hC hP (ow_q10_0) rfl rfl 5 (by decide) (hts _ lk_X4_begin_2) rfl rfl dX4_begin_15 ?_
    refine lv_iload_n hx hb dX4_begin_18 rfl (lv_at hl 1 rfl) ?_
    refine og_zald (g := 11) (i := 5) (j := x1.toNatClampNeg) (v := (st.1 53 x1.toNatClampNeg)) hx hb hC hP (ow_q11_5) rfl hk rfl rfl dX4_begin_19 ?_
    refine lv_if_eq (tgt := 27) hx hb dX4_begin_20 (by decide) (fun c_2 => ?_) (fun c_2 => ?_)
    · refine lv_iconst (v := 1) hx hb dX4_begin_27 (by decide) ?_
      refine og_iast (g := 11) (i := 4) (j := x1.toNatClampNeg) (v := 1) hx hb hC hP hS (ow_q11_4) rfl hk rfl (we_11_4 st x1.toNatClampNeg 1) dX4_begin_28 (fun H locs hP hS => ?_)
      obtain ⟨st3, e3⟩ : ∃ z, z = (ow_si st 52 x1.toNatClampNeg 1) := ⟨_, rfl⟩
      rw [← e3] at hP
      refine lv_aload_n hx hb dX4_begin_29 rfl (lv_at hl 0 rfl) ?_
      refine og_get (C := RX4) (T := TX4) (N := 19) (g := 10) (i := 0) (v := .ref (ad 11 5)) hx hb hts li_X4_begin_X4 hown hC hP (ow_q10_0) rfl rfl 5 (by decide) (hts _ lk_X4_begin_2) rfl rfl dX4_begin_30 ?_
      refine lv_iload_n hx hb dX4_begin_33 rfl (lv_at hl 1 rfl) ?_
      refine og_zald (g := 11) (i := 5) (j := x1.toNatClampNeg) (v := (st3.1 53 x1.toNatClampNeg)) hx hb hC hP (ow_q11_5) rfl hk rfl rfl dX4_begin_34 ?_
      refine lv_if_eq (tgt := 43) hx hb dX4_begin_35 (by decide) (fun c_4 => ?_) (fun c_4 => ?_)
      · refine lv_iconst (v := 0) hx hb dX4_begin_43 (by decide) ?_
        exact W.iret (v := 0) hx hb hr (fun t ht hW => ⟨⟨0, st3, rfl, (by subst e3; simp only [fX4_begin, if_pos c_1, if_pos c_2, if_pos c_4]), ow_Bi ht hP⟩, hS.F ht⟩) hS.2.2 dX4_begin_44
      · refine lv_bipush (v := (-8)) hx hb dX4_begin_38 (by decide) ?_
        refine lv_goto (tgt := 44) hx hb dX4_begin_40 (by decide) ?_
        exact W.iret (v := (-8)) hx hb hr (fun t ht hW => ⟨⟨(-8), st3, rfl, (by subst e3; simp only [fX4_begin, if_pos c_1, if_pos c_2, if_neg c_4]), ow_Bi ht hP⟩, hS.F ht⟩) hS.2.2 dX4_begin_44
    · refine lv_iconst (v := 2) hx hb dX4_begin_23 (by decide) ?_
      refine lv_goto (tgt := 28) hx hb dX4_begin_24 (by decide) ?_
      refine og_iast (g := 11) (i := 4) (j := x1.toNatClampNeg) (v := 2) hx hb hC hP hS (ow_q11_4) rfl hk rfl (we_11_4 st x1.toNatClampNeg 2) dX4_begin_28 (fun H locs hP hS => ?_)
      obtain ⟨st5, e5⟩ : ∃ z, z = (ow_si st 52 x1.toNatClampNeg 2) := ⟨_, rfl⟩
      rw [← e5] at hP
      refine lv_aload_n hx hb dX4_begin_29 rfl (lv_at hl 0 rfl) ?_
      refine og_get (C := RX4) (T := TX4) (N := 19) (g := 10) (i := 0) (v := .ref (ad 11 5)) hx hb hts li_X4_begin_X4 hown hC hP (ow_q10_0) rfl rfl 5 (by decide) (hts _ lk_X4_begin_2) rfl rfl dX4_begin_30 ?_
      refine lv_iload_n hx hb dX4_begin_33 rfl (lv_at hl 1 rfl) ?_
      refine og_zald (g := 11) (i := 5) (j := x1.toNatClampNeg) (v := (st5.1 53 x1.toNatClampNeg)) hx hb hC hP (ow_q11_5) rfl hk rfl rfl dX4_begin_34 ?_
      refine lv_if_eq (tgt := 43) hx hb dX4_begin_35 (by decide) (fun c_6 => ?_) (fun c_6 => ?_)
      · refine lv_iconst (v := 0) hx hb dX4_begin_43 (by decide) ?_
        exact W.iret (v := 0) hx hb hr (fun t ht hW => ⟨⟨0, st5, rfl, (by subst e5; simp only [fX4_begin, if_pos c_1, if_neg c_2, if_pos c_6]), ow_Bi ht hP⟩, hS.F ht⟩) hS.2.2 dX4_begin_44
      · refine lv_bipush (v := (-8)) hx hb dX4_begin_38 (by decide) ?_
        refine lv_goto (tgt := 44) hx hb dX4_begin_40 (by decide) ?_
        exact W.iret (v := (-8)) hx hb hr (fun t ht hW => ⟨⟨(-8), st5, rfl, (by subst e5; simp only [fX4_begin, if_pos c_1, if_neg c_2, if_neg c_6]), ow_Bi ht hP⟩, hS.F ht⟩) hS.2.2 dX4_begin_44

theorem lk_X4_works_0 : (.fieldLink RX4 101 "RecordLabelsModel" "came" "J" : Cond) ∈ wsX4_works := by decide +kernel
theorem li_X4_works_X4 : ∀ w ∈ u_ws RX4 TX4 19, w ∈ wsX4_works := by decide +kernel
theorem lk_X4_works_2 : (.constantLong RX4 105 (2) : Cond) ∈ wsX4_works := by decide +kernel
theorem lk_X4_works_3 : (.constantLong RX4 107 (10) : Cond) ∈ wsX4_works := by decide +kernel
theorem lk_X4_works_4 : (.constantLong RX4 113 (100) : Cond) ∈ wsX4_works := by decide +kernel
theorem lk_X4_works_5 : (.constantLong RX4 115 (5) : Cond) ∈ wsX4_works := by decide +kernel
def fX4_works (st : ow_St) (x1 x2 : Int32) (x3 : Int64) : Int32 × ow_St := (if x1 = 2 then (let st2 := (ow_sl st 2 (x3 ^^^ (x2.toInt64))); (1, st2)) else (if ((10 * x1) + x2) = 0 then (let st4 := (ow_sl st 2 x3); (1, st4)) else (if ((10 * x1) + x2) = 1 then (let st6 := (ow_sl st 2 (2 * x3)); (1, st6)) else (if ((10 * x1) + x2) = 2 then (let st8 := (ow_sl st 2 (x3 + 10)); (1, st8)) else (if ((10 * x1) + x2) = 3 then (let st10 := (ow_sl st 2 (-x3)); (1, st10)) else (if ((10 * x1) + x2) = 4 then (let st12 := (ow_sl st 2 (x3 * x3)); (1, st12)) else (if ((10 * x1) + x2) = 5 then (let st14 := (ow_sl st 2 (x3 ^^^ (x2.toInt64))); (1, st14)) else (if ((10 * x1) + x2) = 6 then (let st16 := (ow_sl st 2 (x3 ^^^ (x2.toInt64))); (1, st16)) else (if ((10 * x1) + x2) = 7 then (let st18 := (ow_sl st 2 (x3 ^^^ (x2.toInt64))); (1, st18)) else (if ((10 * x1) + x2) = 8 then (let st20 := (ow_sl st 2 (x3 ^^^ (x2.toInt64))); (1, st20)) else (if ((10 * x1) + x2) = 9 then (let st22 := (ow_sl st 2 (x3 ^^^ (x2.toInt64))); (1, st22)) else (if ((10 * x1) + x2) = 10 then (let st24 := (ow_sl st 2 (x3 + 1)); (1, st24)) else (if ((10 * x1) + x2) = 11 then (let st26 := (ow_sl st 2 (x3 - 1)); (1, st26)) else (if ((10 * x1) + x2) = 12 then (let st28 := (ow_sl st 2 (x3 / 2)); (1, st28)) else (if ((10 * x1) + x2) = 13 then (if (lg_cmp x3 0) = 0 then (let st31 := (fX4_lost st (-5)).2; ((fX4_lost st (-5)).1, st31)) else (let st33 := (ow_sl st 2 (100 / x3)); (1, st33))) else (if ((10 * x1) + x2) = 14 then (if (lg_cmp x3 0) = 0 then (let st36 := (fX4_lost st (-5)).2; ((fX4_lost st (-5)).1, st36)) else (let st38 := (ow_sl st 2 (100 - 100 / x3 * x3)); (1, st38))) else (if ((10 * x1) + x2) = 15 then (if (lg_cmp x3 0) < 0 then (let st41 := (fX4_lost st (-6)).2; ((fX4_lost st (-6)).1, st41)) else (if (lg_cmp x3 2) ≤ 0 then (let st43 := (ow_sl st 2 (5 + (2 * x3))); (1, st43)) else (let st44 := (fX4_lost st (-6)).2; ((fX4_lost st (-6)).1, st44)))) else (if ((10 * x1) + x2) = 16 then (if 0 ≤ (lg_cmp x3 0) then (let st47 := (ow_sl st 2 x3); (1, st47)) else (let st48 := (fX4_lost st (-7)).2; ((fX4_lost st (-7)).1, st48))) else (let st49 := (ow_sl st 2 (x3 ^^^ (x2.toInt64))); (1, st49))))))))))))))))))))
set_option maxHeartbeats 4000000 in
set_option maxRecDepth 100000 in
theorem kX4_works (l : Launch) (D : va_G) (ca : Nat → ClassId) (ad : ow_Ad) (A : Nat → Prop) (st : ow_St) (x1 : Int32) (x2 : Int32) (x3 : Int64) : Met l yX4_works wsX4_works ({ frames := 1, cells := 0, slots := 0, locals := 21 }) (va_Pc [.ref (ad 10 0), .int x1, .int x2, .long x3] (ow_W D ca ad A st)) (va_Qi (fun r st' => (r, st') = (fX4_works st x1 x2 x3)) (ow_B D ca ad) A) 0 0 A := by
  refine Met.ofW (cc := cX4_works) (maxL := 6) (ret := (some .int)) (by decide) rfl ?_
  intro p e s m args below meth c s₁ B hml hv
  obtain ⟨rfl, hP, hC⟩ := hv
  have hx := B.exec
  have hb := B.bytes
  have hr := B.returns
  have hts := atoms_spec (ws := wsX4_works) B.pre
  have hown : s.vm.findClass RX4 = some m.cls := findClass_of_methodNamed B.named
  have hlocks := B.notSynchronized
  have hS : va_S A s.heap s.heap [] := va_S.rf
  have hl := lv_entry ([.ref (ad 10 0), .int x1, .int x2, .long x3]) (n := 6) (Nat.le_of_ble_eq_true rfl)
  rw [lg_entry_eq]
  generalize (lg_sl ([.ref (ad 10 0), .int x1, .int x2, .long x3]) ++ List.replicate (6 - (lg_sl ([.ref (ad 10 0), .int x1, .int x2, .long x3])).length) Slot.unset).toArray = ls at hl ⊢
  have hl : lv_has ls 6 [(0, .ref (ad 10 0)), (1, .int x1), (2, .int x2), (3, .long x3)] := hl
  refine lv_iload_n hx hb dX4_works_0 rfl (lv_at hl 1 rfl) ?_
  refine lv_iconst (v := 2) hx hb dX4_works_1 (by decide) ?_
  refine lv_icmp_ne (tgt := 10) hx hb dX4_works_2 (by decide) (fun c_1 => ?_) (fun c_1 => ?_)
  · refine lv_bipush (v := 10) hx hb dX4_works_10 (by decide) ?_
    refine lv_iload_n hx hb dX4_works_12 rfl (lv_at hl 1 rfl) ?_
    refine lv_imul hx hb dX4_works_13 ?_
    refine lv_iload_n hx hb dX4_works_14 rfl (lv_at hl 2 rfl) ?_
    refine lv_iadd hx hb dX4_works_15 ?_
    refine lv_istore (lv' := [(5, .int ((10 * x1) + x2)), (0, .ref (ad 10 0)), (1, .int x1), (2, .int x2), (3, .long x3)]) hx hb dX4_works_16 hl (by decide) rfl (fun ls hl => ?_)
    refine lv_iload hx hb dX4_works_18 (lv_at hl 0 rfl) ?_
    by_cases c_3 : ((10 * x1) + x2) = 0
    · refine lv_tableIn (tgt := 104) (off := 84) hx hb dX4_works_20 (by rw [c_3]; decide) (by rw [c_3]; decide) (by rw [c_3]; rfl) (by decide) ?_
      refine lv_aload_n hx hb dX4_works_104 rfl (lv_at hl 1 rfl) ?_
      refine lv_lload_n hx hb dX4_works_105 rfl (lv_at hl 4 rfl) ?_
      refine og_put (C := RX4) (T := TX4) (N := 19) (g := 10) (i := 0) (v := .long x3) (ty := .long) hx hb hts li_X4_works_X4 tyX4 tyX4_ok nmX4 hown hC hP hS (ow_q10_0) rfl rfl 17 (by decide) (hts _ lk_X4_works_0) rfl rfl (by decide +kernel) rfl rfl (Nat.le_of_ble_eq_true rfl) (we_10_l2 st x3) dX4_works_106 (fun H locs hP hS => ?_)
      obtain ⟨st4, e4⟩ : ∃ z, z = (ow_sl st 2 x3) := ⟨_, rfl⟩
      rw [← e4] at hP
      refine lv_goto (tgt := 293) hx hb dX4_works_109 (by decide) ?_
      refine lv_iconst (v := 1) hx hb dX4_works_293 (by decide) ?_
      exact W.iret (v := 1) hx hb hr (fun t ht hW => ⟨⟨1, st4, rfl, (by subst e4; simp only [fX4_works, if_neg c_1, if_pos c_3]), ow_Bi ht hP⟩, hS.F ht⟩) hS.2.2 dX4_works_294
    · by_cases c_5 : ((10 * x1) + x2) = 1
      · refine lv_tableIn (tgt := 112) (off := 92) hx hb dX4_works_20 (by rw [c_5]; decide) (by rw [c_5]; decide) (by rw [c_5]; rfl) (by decide) ?_
        refine lv_aload_n hx hb dX4_works_112 rfl (lv_at hl 1 rfl) ?_
        refine lv_ldc2 (v := 2) hx hb hown (hts _ lk_X4_works_2) dX4_works_113 ?_
        refine lv_lload_n hx hb dX4_works_116 rfl (lv_at hl 4 rfl) ?_
        refine lv_lmul hx hb dX4_works_117 ?_
        refine og_put (C := RX4) (T := TX4) (N := 19) (g := 10) (i := 0) (v := .long (2 * x3)) (ty := .long) hx hb hts li_X4_works_X4 tyX4 tyX4_ok nmX4 hown hC hP hS (ow_q10_0) rfl rfl 17 (by decide) (hts _ lk_X4_works_0) rfl rfl (by decide +kernel) rfl rfl (Nat.le_of_ble_eq_true rfl) (we_10_l2 st (2 * x3)) dX4_works_118 (fun H locs hP hS => ?_)
        obtain ⟨st6, e6⟩ : ∃ z, z = (ow_sl st 2 (2 * x3)) := ⟨_, rfl⟩
        rw [← e6] at hP
        refine lv_goto (tgt := 293) hx hb dX4_works_121 (by decide) ?_
        refine lv_iconst (v := 1) hx hb dX4_works_293 (by decide) ?_
        exact W.iret (v := 1) hx hb hr (fun t ht hW => ⟨⟨1, st6, rfl, (by subst e6; simp only [fX4_works, if_neg c_1, if_neg c_3, if_pos c_5]), ow_Bi ht hP⟩, hS.F ht⟩) hS.2.2 dX4_works_294
      · by_cases c_7 : ((10 * x1) + x2) = 2
        · refine lv_tableIn (tgt := 124) (off := 104) hx hb dX4_works_20 (by rw [c_7]; decide) (by rw [c_7]; decide) (by rw [c_7]; rfl) (by decide) ?_
          refine lv_aload_n hx hb dX4_works_124 rfl (lv_at hl 1 rfl) ?_
          refine lv_lload_n hx hb dX4_works_125 rfl (lv_at hl 4 rfl) ?_
          refine lv_ldc2 (v := 10) hx hb hown (hts _ lk_X4_works_3) dX4_works_126 ?_
          refine lv_ladd hx hb dX4_works_129 ?_
          refine og_put (C := RX4) (T := TX4) (N := 19) (g := 10) (i := 0) (v := .long (x3 + 10)) (ty := .long) hx hb hts li_X4_works_X4 tyX4 tyX4_ok nmX4 hown hC hP hS (ow_q10_0) rfl rfl 17 (by decide) (hts _ lk_X4_works_0) rfl rfl (by decide +kernel) rfl rfl (Nat.le_of_ble_eq_true rfl) (we_10_l2 st (x3 + 10)) dX4_works_130 (fun H locs hP hS => ?_)
          obtain ⟨st8, e8⟩ : ∃ z, z = (ow_sl st 2 (x3 + 10)) := ⟨_, rfl⟩
          rw [← e8] at hP
          refine lv_goto (tgt := 293) hx hb dX4_works_133 (by decide) ?_
          refine lv_iconst (v := 1) hx hb dX4_works_293 (by decide) ?_
          exact W.iret (v := 1) hx hb hr (fun t ht hW => ⟨⟨1, st8, rfl, (by subst e8; simp only [fX4_works, if_neg c_1, if_neg c_3, if_neg c_5, if_pos c_7]), ow_Bi ht hP⟩, hS.F ht⟩) hS.2.2 dX4_works_294
        · by_cases c_9 : ((10 * x1) + x2) = 3
          · refine lv_tableIn (tgt := 136) (off := 116) hx hb dX4_works_20 (by rw [c_9]; decide) (by rw [c_9]; decide) (by rw [c_9]; rfl) (by decide) ?_
            refine lv_aload_n hx hb dX4_works_136 rfl (lv_at hl 1 rfl) ?_
            refine lv_lload_n hx hb dX4_works_137 rfl (lv_at hl 4 rfl) ?_
            refine lv_lneg hx hb dX4_works_138 ?_
            refine og_put (C := RX4) (T := TX4) (N := 19) (g := 10) (i := 0) (v := .long (-x3)) (ty := .long) hx hb hts li_X4_works_X4 tyX4 tyX4_ok nmX4 hown hC hP hS (ow_q10_0) rfl rfl 17 (by decide) (hts _ lk_X4_works_0) rfl rfl (by decide +kernel) rfl rfl (Nat.le_of_ble_eq_true rfl) (we_10_l2 st (-x3)) dX4_works_139 (fun H locs hP hS => ?_)
            obtain ⟨st10, e10⟩ : ∃ z, z = (ow_sl st 2 (-x3)) := ⟨_, rfl⟩
            rw [← e10] at hP
            refine lv_goto (tgt := 293) hx hb dX4_works_142 (by decide) ?_
            refine lv_iconst (v := 1) hx hb dX4_works_293 (by decide) ?_
            exact W.iret (v := 1) hx hb hr (fun t ht hW => ⟨⟨1, st10, rfl, (by subst e10; simp only [fX4_works, if_neg c_1, if_neg c_3, if_neg c_5, if_neg c_7, if_pos c_9]), ow_Bi ht hP⟩, hS.F ht⟩) hS.2.2 dX4_works_294
          · by_cases c_11 : ((10 * x1) + x2) = 4
            · refine lv_tableIn (tgt := 145) (off := 125) hx hb dX4_works_20 (by rw [c_11]; decide) (by rw [c_11]; decide) (by rw [c_11]; rfl) (by decide) ?_
              refine lv_aload_n hx hb dX4_works_145 rfl (lv_at hl 1 rfl) ?_
              refine lv_lload_n hx hb dX4_works_146 rfl (lv_at hl 4 rfl) ?_
              refine lv_lload_n hx hb dX4_works_147 rfl (lv_at hl 4 rfl) ?_
              refine lv_lmul hx hb dX4_works_148 ?_
              refine og_put (C := RX4) (T := TX4) (N := 19) (g := 10) (i := 0) (v := .long (x3 * x3)) (ty := .long) hx hb hts li_X4_works_X4 tyX4 tyX4_ok nmX4 hown hC hP hS (ow_q10_0) rfl rfl 17 (by decide) (hts _ lk_X4_works_0) rfl rfl (by decide +kernel) rfl rfl (Nat.le_of_ble_eq_true rfl) (we_10_l2 st (x3 * x3)) dX4_works_149 (fun H locs hP hS => ?_)
              obtain ⟨st12, e12⟩ : ∃ z, z = (ow_sl st 2 (x3 * x3)) := ⟨_, rfl⟩
              rw [← e12] at hP
              refine lv_goto (tgt := 293) hx hb dX4_works_152 (by decide) ?_
              refine lv_iconst (v := 1) hx hb dX4_works_293 (by decide) ?_
              exact W.iret (v := 1) hx hb hr (fun t ht hW => ⟨⟨1, st12, rfl, (by subst e12; simp only [fX4_works, if_neg c_1, if_neg c_3, if_neg c_5, if_neg c_7, if_neg c_9, if_pos c_11]), ow_Bi ht hP⟩, hS.F ht⟩) hS.2.2 dX4_works_294
            · by_cases c_13 : ((10 * x1) + x2) = 5
              · refine lv_tableIn (tgt := 285) (off := 265) hx hb dX4_works_20 (by rw [c_13]; decide) (by rw [c_13]; decide) (by rw [c_13]; rfl) (by decide) ?_
                refine lv_aload_n hx hb dX4_works_285 rfl (lv_at hl 1 rfl) ?_
                refine lv_lload_n hx hb dX4_works_286 rfl (lv_at hl 4 rfl) ?_
                refine lv_iload_n hx hb dX4_works_287 rfl (lv_at hl 3 rfl) ?_
                refine lv_i2l (v := x2.toInt64) hx hb dX4_works_288 rfl ?_
                refine lv_lxor hx hb dX4_works_289 ?_
                refine og_put (C := RX4) (T := TX4) (N := 19) (g := 10) (i := 0) (v := .long (x3 ^^^ (x2.toInt64))) (ty := .long) hx hb hts li_X4_works_X4 tyX4 tyX4_ok nmX4 hown hC hP hS (ow_q10_0) rfl rfl 17 (by decide) (hts _ lk_X4_works_0) rfl rfl (by decide +kernel) rfl rfl (Nat.le_of_ble_eq_true rfl) (we_10_l2 st (x3 ^^^ (x2.toInt64))) dX4_works_290 (fun H locs hP hS => ?_)
                obtain ⟨st14, e14⟩ : ∃ z, z = (ow_sl st 2 (x3 ^^^ (x2.toInt64))) := ⟨_, rfl⟩
                rw [← e14] at hP
                refine lv_iconst (v := 1) hx hb dX4_works_293 (by decide) ?_
                exact W.iret (v := 1) hx hb hr (fun t ht hW => ⟨⟨1, st14, rfl, (by subst e14; simp only [fX4_works, if_neg c_1, if_neg c_3, if_neg c_5, if_neg c_7, if_neg c_9, if_neg c_11, if_pos c_13]), ow_Bi ht hP⟩, hS.F ht⟩) hS.2.2 dX4_works_294
              · by_cases c_15 : ((10 * x1) + x2) = 6
                · refine lv_tableIn (tgt := 285) (off := 265) hx hb dX4_works_20 (by rw [c_15]; decide) (by rw [c_15]; decide) (by rw [c_15]; rfl) (by decide) ?_
                  refine lv_aload_n hx hb dX4_works_285 rfl (lv_at hl 1 rfl) ?_
                  refine lv_lload_n hx hb dX4_works_286 rfl (lv_at hl 4 rfl) ?_
                  refine lv_iload_n hx hb dX4_works_287 rfl (lv_at hl 3 rfl) ?_
                  refine lv_i2l (v := x2.toInt64) hx hb dX4_works_288 rfl ?_
                  refine lv_lxor hx hb dX4_works_289 ?_
                  refine og_put (C := RX4) (T := TX4) (N := 19) (g := 10) (i := 0) (v := .long (x3 ^^^ (x2.toInt64))) (ty := .long) hx hb hts li_X4_works_X4 tyX4 tyX4_ok nmX4 hown hC hP hS (ow_q10_0) rfl rfl 17 (by decide) (hts _ lk_X4_works_0) rfl rfl (by decide +kernel) rfl rfl (Nat.le_of_ble_eq_true rfl) (we_10_l2 st (x3 ^^^ (x2.toInt64))) dX4_works_290 (fun H locs hP hS => ?_)
                  obtain ⟨st16, e16⟩ : ∃ z, z = (ow_sl st 2 (x3 ^^^ (x2.toInt64))) := ⟨_, rfl⟩
                  rw [← e16] at hP
                  refine lv_iconst (v := 1) hx hb dX4_works_293 (by decide) ?_
                  exact W.iret (v := 1) hx hb hr (fun t ht hW => ⟨⟨1, st16, rfl, (by subst e16; simp only [fX4_works, if_neg c_1, if_neg c_3, if_neg c_5, if_neg c_7, if_neg c_9, if_neg c_11, if_neg c_13, if_pos c_15]), ow_Bi ht hP⟩, hS.F ht⟩) hS.2.2 dX4_works_294
                · by_cases c_17 : ((10 * x1) + x2) = 7
                  · refine lv_tableIn (tgt := 285) (off := 265) hx hb dX4_works_20 (by rw [c_17]; decide) (by rw [c_17]; decide) (by rw [c_17]; rfl) (by decide) ?_
                    refine lv_aload_n hx hb dX4_works_285 rfl (lv_at hl 1 rfl) ?_
                    refine lv_lload_n hx hb dX4_works_286 rfl (lv_at hl 4 rfl) ?_
                    refine lv_iload_n hx hb dX4_works_287 rfl (lv_at hl 3 rfl) ?_
                    refine lv_i2l (v := x2.toInt64) hx hb dX4_works_288 rfl ?_
                    refine lv_lxor hx hb dX4_works_289 ?_
                    refine og_put (C := RX4) (T := TX4) (N := 19) (g := 10) (i := 0) (v := .long (x3 ^^^ (x2.toInt64))) (ty := .long) hx hb hts li_X4_works_X4 tyX4 tyX4_ok nmX4 hown hC hP hS (ow_q10_0) rfl rfl 17 (by decide) (hts _ lk_X4_works_0) rfl rfl (by decide +kernel) rfl rfl (Nat.le_of_ble_eq_true rfl) (we_10_l2 st (x3 ^^^ (x2.toInt64))) dX4_works_290 (fun H locs hP hS => ?_)
                    obtain ⟨st18, e18⟩ : ∃ z, z = (ow_sl st 2 (x3 ^^^ (x2.toInt64))) := ⟨_, rfl⟩
                    rw [← e18] at hP
                    refine lv_iconst (v := 1) hx hb dX4_works_293 (by decide) ?_
                    exact W.iret (v := 1) hx hb hr (fun t ht hW => ⟨⟨1, st18, rfl, (by subst e18; simp only [fX4_works, if_neg c_1, if_neg c_3, if_neg c_5, if_neg c_7, if_neg c_9, if_neg c_11, if_neg c_13, if_neg c_15, if_pos c_17]), ow_Bi ht hP⟩, hS.F ht⟩) hS.2.2 dX4_works_294
                  · by_cases c_19 : ((10 * x1) + x2) = 8
                    · refine lv_tableIn (tgt := 285) (off := 265) hx hb dX4_works_20 (by rw [c_19]; decide) (by rw [c_19]; decide) (by rw [c_19]; rfl) (by decide) ?_
                      refine lv_aload_n hx hb dX4_works_285 rfl (lv_at hl 1 rfl) ?_
                      refine lv_lload_n hx hb dX4_works_286 rfl (lv_at hl 4 rfl) ?_
                      refine lv_iload_n hx hb dX4_works_287 rfl (lv_at hl 3 rfl) ?_
                      refine lv_i2l (v := x2.toInt64) hx hb dX4_works_288 rfl ?_
                      refine lv_lxor hx hb dX4_works_289 ?_
                      refine og_put (C := RX4) (T := TX4) (N := 19) (g := 10) (i := 0) (v := .long (x3 ^^^ (x2.toInt64))) (ty := .long) hx hb hts li_X4_works_X4 tyX4 tyX4_ok nmX4 hown hC hP hS (ow_q10_0) rfl rfl 17 (by decide) (hts _ lk_X4_works_0) rfl rfl (by decide +kernel) rfl rfl (Nat.le_of_ble_eq_true rfl) (we_10_l2 st (x3 ^^^ (x2.toInt64))) dX4_works_290 (fun H locs hP hS => ?_)
                      obtain ⟨st20, e20⟩ : ∃ z, z = (ow_sl st 2 (x3 ^^^ (x2.toInt64))) := ⟨_, rfl⟩
                      rw [← e20] at hP
                      refine lv_iconst (v := 1) hx hb dX4_works_293 (by decide) ?_
                      exact W.iret (v := 1) hx hb hr (fun t ht hW => ⟨⟨1, st20, rfl, (by subst e20; simp only [fX4_works, if_neg c_1, if_neg c_3, if_neg c_5, if_neg c_7, if_neg c_9, if_neg c_11, if_neg c_13, if_neg c_15, if_neg c_17, if_pos c_19]), ow_Bi ht hP⟩, hS.F ht⟩) hS.2.2 dX4_works_294
                    · by_cases c_21 : ((10 * x1) + x2) = 9
                      · refine lv_tableIn (tgt := 285) (off := 265) hx hb dX4_works_20 (by rw [c_21]; decide) (by rw [c_21]; decide) (by rw [c_21]; rfl) (by decide) ?_
                        refine lv_aload_n hx hb dX4_works_285 rfl (lv_at hl 1 rfl) ?_
                        refine lv_lload_n hx hb dX4_works_286 rfl (lv_at hl 4 rfl) ?_
                        refine lv_iload_n hx hb dX4_works_287 rfl (lv_at hl 3 rfl) ?_
                        refine lv_i2l (v := x2.toInt64) hx hb dX4_works_288 rfl ?_
                        refine lv_lxor hx hb dX4_works_289 ?_
                        refine og_put (C := RX4) (T := TX4) (N := 19) (g := 10) (i := 0) (v := .long (x3 ^^^ (x2.toInt64))) (ty := .long) hx hb hts li_X4_works_X4 tyX4 tyX4_ok nmX4 hown hC hP hS (ow_q10_0) rfl rfl 17 (by decide) (hts _ lk_X4_works_0) rfl rfl (by decide +kernel) rfl rfl (Nat.le_of_ble_eq_true rfl) (we_10_l2 st (x3 ^^^ (x2.toInt64))) dX4_works_290 (fun H locs hP hS => ?_)
                        obtain ⟨st22, e22⟩ : ∃ z, z = (ow_sl st 2 (x3 ^^^ (x2.toInt64))) := ⟨_, rfl⟩
                        rw [← e22] at hP
                        refine lv_iconst (v := 1) hx hb dX4_works_293 (by decide) ?_
                        exact W.iret (v := 1) hx hb hr (fun t ht hW => ⟨⟨1, st22, rfl, (by subst e22; simp only [fX4_works, if_neg c_1, if_neg c_3, if_neg c_5, if_neg c_7, if_neg c_9, if_neg c_11, if_neg c_13, if_neg c_15, if_neg c_17, if_neg c_19, if_pos c_21]), ow_Bi ht hP⟩, hS.F ht⟩) hS.2.2 dX4_works_294
                      · by_cases c_23 : ((10 * x1) + x2) = 10
                        · refine lv_tableIn (tgt := 155) (off := 135) hx hb dX4_works_20 (by rw [c_23]; decide) (by rw [c_23]; decide) (by rw [c_23]; rfl) (by decide) ?_
                          refine lv_aload_n hx hb dX4_works_155 rfl (lv_at hl 1 rfl) ?_
                          refine lv_lload_n hx hb dX4_works_156 rfl (lv_at hl 4 rfl) ?_
                          refine lv_lconst (v := 1) hx hb dX4_works_157 rfl ?_
                          refine lv_ladd hx hb dX4_works_158 ?_
                          refine og_put (C := RX4) (T := TX4) (N := 19) (g := 10) (i := 0) (v := .long (x3 + 1)) (ty := .long) hx hb hts li_X4_works_X4 tyX4 tyX4_ok nmX4 hown hC hP hS (ow_q10_0) rfl rfl 17 (by decide) (hts _ lk_X4_works_0) rfl rfl (by decide +kernel) rfl rfl (Nat.le_of_ble_eq_true rfl) (we_10_l2 st (x3 + 1)) dX4_works_159 (fun H locs hP hS => ?_)
                          obtain ⟨st24, e24⟩ : ∃ z, z = (ow_sl st 2 (x3 + 1)) := ⟨_, rfl⟩
                          rw [← e24] at hP
                          refine lv_goto (tgt := 293) hx hb dX4_works_162 (by decide) ?_
                          refine lv_iconst (v := 1) hx hb dX4_works_293 (by decide) ?_
                          exact W.iret (v := 1) hx hb hr (fun t ht hW => ⟨⟨1, st24, rfl, (by subst e24; simp only [fX4_works, if_neg c_1, if_neg c_3, if_neg c_5, if_neg c_7, if_neg c_9, if_neg c_11, if_neg c_13, if_neg c_15, if_neg c_17, if_neg c_19, if_neg c_21, if_pos c_23]), ow_Bi ht hP⟩, hS.F ht⟩) hS.2.2 dX4_works_294
                        · by_cases c_25 : ((10 * x1) + x2) = 11
                          · refine lv_tableIn (tgt := 165) (off := 145) hx hb dX4_works_20 (by rw [c_25]; decide) (by rw [c_25]; decide) (by rw [c_25]; rfl) (by decide) ?_
                            refine lv_aload_n hx hb dX4_works_165 rfl (lv_at hl 1 rfl) ?_
                            refine lv_lload_n hx hb dX4_works_166 rfl (lv_at hl 4 rfl) ?_
                            refine lv_lconst (v := 1) hx hb dX4_works_167 rfl ?_
                            refine lv_lsub hx hb dX4_works_168 ?_
                            refine og_put (C := RX4) (T := TX4) (N := 19) (g := 10) (i := 0) (v := .long (x3 - 1)) (ty := .long) hx hb hts li_X4_works_X4 tyX4 tyX4_ok nmX4 hown hC hP hS (ow_q10_0) rfl rfl 17 (by decide) (hts _ lk_X4_works_0) rfl rfl (by decide +kernel) rfl rfl (Nat.le_of_ble_eq_true rfl) (we_10_l2 st (x3 - 1)) dX4_works_169 (fun H locs hP hS => ?_)
                            obtain ⟨st26, e26⟩ : ∃ z, z = (ow_sl st 2 (x3 - 1)) := ⟨_, rfl⟩
                            rw [← e26] at hP
                            refine lv_goto (tgt := 293) hx hb dX4_works_172 (by decide) ?_
                            refine lv_iconst (v := 1) hx hb dX4_works_293 (by decide) ?_
                            exact W.iret (v := 1) hx hb hr (fun t ht hW => ⟨⟨1, st26, rfl, (by subst e26; simp only [fX4_works, if_neg c_1, if_neg c_3, if_neg c_5, if_neg c_7, if_neg c_9, if_neg c_11, if_neg c_13, if_neg c_15, if_neg c_17, if_neg c_19, if_neg c_21, if_neg c_23, if_pos c_25]), ow_Bi ht hP⟩, hS.F ht⟩) hS.2.2 dX4_works_294
                          · by_cases c_27 : ((10 * x1) + x2) = 12
                            · refine lv_tableIn (tgt := 175) (off := 155) hx hb dX4_works_20 (by rw [c_27]; decide) (by rw [c_27]; decide) (by rw [c_27]; rfl) (by decide) ?_
                              refine lv_aload_n hx hb dX4_works_175 rfl (lv_at hl 1 rfl) ?_
                              refine lv_lload_n hx hb dX4_works_176 rfl (lv_at hl 4 rfl) ?_
                              refine lv_ldc2 (v := 2) hx hb hown (hts _ lk_X4_works_2) dX4_works_177 ?_
                              refine lv_ldiv hx hb dX4_works_180 (by decide) ?_
                              refine og_put (C := RX4) (T := TX4) (N := 19) (g := 10) (i := 0) (v := .long (x3 / 2)) (ty := .long) hx hb hts li_X4_works_X4 tyX4 tyX4_ok nmX4 hown hC hP hS (ow_q10_0) rfl rfl 17 (by decide) (hts _ lk_X4_works_0) rfl rfl (by decide +kernel) rfl rfl (Nat.le_of_ble_eq_true rfl) (we_10_l2 st (x3 / 2)) dX4_works_181 (fun H locs hP hS => ?_)
                              obtain ⟨st28, e28⟩ : ∃ z, z = (ow_sl st 2 (x3 / 2)) := ⟨_, rfl⟩
                              rw [← e28] at hP
                              refine lv_goto (tgt := 293) hx hb dX4_works_184 (by decide) ?_
                              refine lv_iconst (v := 1) hx hb dX4_works_293 (by decide) ?_
                              exact W.iret (v := 1) hx hb hr (fun t ht hW => ⟨⟨1, st28, rfl, (by subst e28; simp only [fX4_works, if_neg c_1, if_neg c_3, if_neg c_5, if_neg c_7, if_neg c_9, if_neg c_11, if_neg c_13, if_neg c_15, if_neg c_17, if_neg c_19, if_neg c_21, if_neg c_23, if_neg c_25, if_pos c_27]), ow_Bi ht hP⟩, hS.F ht⟩) hS.2.2 dX4_works_294
                            · by_cases c_29 : ((10 * x1) + x2) = 13
                              · refine lv_tableIn (tgt := 187) (off := 167) hx hb dX4_works_20 (by rw [c_29]; decide) (by rw [c_29]; decide) (by rw [c_29]; rfl) (by decide) ?_
                                refine lv_lload_n hx hb dX4_works_187 rfl (lv_at hl 4 rfl) ?_
                                refine lv_lconst (v := 0) hx hb dX4_works_188 rfl ?_
                                refine W.lcmp hx hb dX4_works_189 ?_
                                refine lv_if_ne (tgt := 200) hx hb dX4_works_190 (by decide) (fun c_30 => ?_) (fun c_30 => ?_)
                                · refine lv_aload_n hx hb dX4_works_200 rfl (lv_at hl 1 rfl) ?_
                                  refine lv_iload hx hb dX4_works_201 (lv_at hl 0 rfl) ?_
                                  refine lv_bipush (v := 13) hx hb dX4_works_203 (by decide) ?_
                                  refine lv_icmp_ne (tgt := 216) hx hb dX4_works_205 (by decide) (fun c => absurd c_29 c) (fun _ => ?_)
                                  refine lv_ldc2 (v := 100) hx hb hown (hts _ lk_X4_works_4) dX4_works_208 ?_
                                  refine lv_lload_n hx hb dX4_works_211 rfl (lv_at hl 4 rfl) ?_
                                  refine lv_ldiv hx hb dX4_works_212 (lg_ne c_30) ?_
                                  refine lv_goto (tgt := 221) hx hb dX4_works_213 (by decide) ?_
                                  refine og_put (C := RX4) (T := TX4) (N := 19) (g := 10) (i := 0) (v := .long (100 / x3)) (ty := .long) hx hb hts li_X4_works_X4 tyX4 tyX4_ok nmX4 hown hC hP hS (ow_q10_0) rfl rfl 17 (by decide) (hts _ lk_X4_works_0) rfl rfl (by decide +kernel) rfl rfl (Nat.le_of_ble_eq_true rfl) (we_10_l2 st (100 / x3)) dX4_works_221 (fun H locs hP hS => ?_)
                                  obtain ⟨st33, e33⟩ : ∃ z, z = (ow_sl st 2 (100 / x3)) := ⟨_, rfl⟩
                                  rw [← e33] at hP
                                  refine lv_goto (tgt := 293) hx hb dX4_works_224 (by decide) ?_
                                  refine lv_iconst (v := 1) hx hb dX4_works_293 (by decide) ?_
                                  exact W.iret (v := 1) hx hb hr (fun t ht hW => ⟨⟨1, st33, rfl, (by subst e33; simp only [fX4_works, if_neg c_1, if_neg c_3, if_neg c_5, if_neg c_7, if_neg c_9, if_neg c_11, if_neg c_13, if_neg c_15, if_neg c_17, if_neg c_19, if_neg c_21, if_neg c_23, if_neg c_25, if_neg c_27, if_pos c_29, if_neg c_30]), ow_Bi ht hP⟩, hS.F ht⟩) hS.2.2 dX4_works_294
                                · refine lv_aload_n hx hb dX4_works_193 rfl (lv_at hl 1 rfl) ?_
                                  refine lv_bipush (v := (-5)) hx hb dX4_works_194 (by decide) ?_
                                  refine og_ciW (og_runV (C := RX4) (T := TX4) (N := 19) (g := 10) (i := 0) (As := [.int (-5)]) (rest := []) ⟨hx, hb, hml, hown, hts⟩ (kX4_lost l D ca ad A st (-5)) (cwV 1 hts gX4_works_X4_lost rfl rfl rfl (by decide +kernel) ⟨Nat.le_of_ble_eq_true rfl, Nat.le_of_ble_eq_true rfl⟩) hC hP hS (ow_q10_0) rfl rfl rfl hl.1 rfl (Nat.le_of_ble_eq_true rfl) dX4_works_196 ⟨Nat.zero_le _, Nat.zero_le _⟩) hS (fun H locs hP hS => ?_)
                                  obtain ⟨st31, e31⟩ : ∃ z, z = (fX4_lost st (-5)).2 := ⟨_, rfl⟩
                                  rw [← e31] at hP
                                  exact W.iret (v := (fX4_lost st (-5)).1) hx hb hr (fun t ht hW => ⟨⟨(fX4_lost st (-5)).1, st31, rfl, (by subst e31; simp only [fX4_works, if_neg c_1, if_neg c_3, if_neg c_5, if_neg c_7, if_neg c_9, if_neg c_11, if_neg c_13, if_neg c_15, if_neg c_17, if_neg c_19, if_neg c_21, if_neg c_23, if_neg c_25, if_neg c_27, if_pos c_29, if_pos c_30]), ow_Bi ht hP⟩, hS.F ht⟩) hS.2.2 dX4_works_199
                              · by_cases c_34 : ((10 * x1) + x2) = 14
                                · refine lv_tableIn (tgt := 187) (off := 167) hx hb dX4_works_20 (by rw [c_34]; decide) (by rw [c_34]; decide) (by rw [c_34]; rfl) (by decide) ?_
                                  refine lv_lload_n hx hb dX4_works_187 rfl (lv_at hl 4 rfl) ?_
                                  refine lv_lconst (v := 0) hx hb dX4_works_188 rfl ?_
                                  refine W.lcmp hx hb dX4_works_189 ?_
                                  refine lv_if_ne (tgt := 200) hx hb dX4_works_190 (by decide) (fun c_35 => ?_) (fun c_35 => ?_)
                                  · refine lv_aload_n hx hb dX4_works_200 rfl (lv_at hl 1 rfl) ?_
                                    refine lv_iload hx hb dX4_works_201 (lv_at hl 0 rfl) ?_
                                    refine lv_bipush (v := 13) hx hb dX4_works_203 (by decide) ?_
                                    refine lv_icmp_ne (tgt := 216) hx hb dX4_works_205 (by decide) (fun _ => ?_) (fun c => absurd c c_29)
                                    refine lv_ldc2 (v := 100) hx hb hown (hts _ lk_X4_works_4) dX4_works_216 ?_
                                    refine lv_lload_n hx hb dX4_works_219 rfl (lv_at hl 4 rfl) ?_
                                    refine lv_lrem hx hb dX4_works_220 (lg_ne c_35) ?_
                                    refine og_put (C := RX4) (T := TX4) (N := 19) (g := 10) (i := 0) (v := .long (100 - 100 / x3 * x3)) (ty := .long) hx hb hts li_X4_works_X4 tyX4 tyX4_ok nmX4 hown hC hP hS (ow_q10_0) rfl rfl 17 (by decide) (hts _ lk_X4_works_0) rfl rfl (by decide +kernel) rfl rfl (Nat.le_of_ble_eq_true rfl) (we_10_l2 st (100 - 100 / x3 * x3)) dX4_works_221 (fun H locs hP hS => ?_)
                                    obtain ⟨st38, e38⟩ : ∃ z, z = (ow_sl st 2 (100 - 100 / x3 * x3)) := ⟨_, rfl⟩
                                    rw [← e38] at hP
                                    refine lv_goto (tgt := 293) hx hb dX4_works_224 (by decide) ?_
                                    refine lv_iconst (v := 1) hx hb dX4_works_293 (by decide) ?_
                                    exact W.iret (v := 1) hx hb hr (fun t ht hW => ⟨⟨1, st38, rfl, (by subst e38; simp only [fX4_works, if_neg c_1, if_neg c_3, if_neg c_5, if_neg c_7, if_neg c_9, if_neg c_11, if_neg c_13, if_neg c_15, if_neg c_17, if_neg c_19, if_neg c_21, if_neg c_23, if_neg c_25, if_neg c_27, if_neg c_29, if_pos c_34, if_neg c_35]), ow_Bi ht hP⟩, hS.F ht⟩) hS.2.2 dX4_works_294
                                  · refine lv_aload_n hx hb dX4_works_193 rfl (lv_at hl 1 rfl) ?_
                                    refine lv_bipush (v := (-5)) hx hb dX4_works_194 (by decide) ?_
                                    refine og_ciW (og_runV (C := RX4) (T := TX4) (N := 19) (g := 10) (i := 0) (As := [.int (-5)]) (rest := []) ⟨hx, hb, hml, hown, hts⟩ (kX4_lost l D ca ad A st (-5)) (cwV 1 hts gX4_works_X4_lost rfl rfl rfl (by decide +kernel) ⟨Nat.le_of_ble_eq_true rfl, Nat.le_of_ble_eq_true rfl⟩) hC hP hS (ow_q10_0) rfl rfl rfl hl.1 rfl (Nat.le_of_ble_eq_true rfl) dX4_works_196 ⟨Nat.zero_le _, Nat.zero_le _⟩) hS (fun H locs hP hS => ?_)
                                    obtain ⟨st36, e36⟩ : ∃ z, z = (fX4_lost st (-5)).2 := ⟨_, rfl⟩
                                    rw [← e36] at hP
                                    exact W.iret (v := (fX4_lost st (-5)).1) hx hb hr (fun t ht hW => ⟨⟨(fX4_lost st (-5)).1, st36, rfl, (by subst e36; simp only [fX4_works, if_neg c_1, if_neg c_3, if_neg c_5, if_neg c_7, if_neg c_9, if_neg c_11, if_neg c_13, if_neg c_15, if_neg c_17, if_neg c_19, if_neg c_21, if_neg c_23, if_neg c_25, if_neg c_27, if_neg c_29, if_pos c_34, if_pos c_35]), ow_Bi ht hP⟩, hS.F ht⟩) hS.2.2 dX4_works_199
                                · by_cases c_39 : ((10 * x1) + x2) = 15
                                  · refine lv_tableIn (tgt := 227) (off := 207) hx hb dX4_works_20 (by rw [c_39]; decide) (by rw [c_39]; decide) (by rw [c_39]; rfl) (by decide) ?_
                                    refine lv_lload_n hx hb dX4_works_227 rfl (lv_at hl 4 rfl) ?_
                                    refine lv_lconst (v := 0) hx hb dX4_works_228 rfl ?_
                                    refine W.lcmp hx hb dX4_works_229 ?_
                                    refine lv_if_lt (tgt := 241) hx hb dX4_works_230 (by decide) (fun c_40 => ?_) (fun c_40 => ?_)
                                    · refine lv_aload_n hx hb dX4_works_241 rfl (lv_at hl 1 rfl) ?_
                                      refine lv_bipush (v := (-6)) hx hb dX4_works_242 (by decide) ?_
                                      refine og_ciW (og_runV (C := RX4) (T := TX4) (N := 19) (g := 10) (i := 0) (As := [.int (-6)]) (rest := []) ⟨hx, hb, hml, hown, hts⟩ (kX4_lost l D ca ad A st (-6)) (cwV 1 hts gX4_works_X4_lost rfl rfl rfl (by decide +kernel) ⟨Nat.le_of_ble_eq_true rfl, Nat.le_of_ble_eq_true rfl⟩) hC hP hS (ow_q10_0) rfl rfl rfl hl.1 rfl (Nat.le_of_ble_eq_true rfl) dX4_works_244 ⟨Nat.zero_le _, Nat.zero_le _⟩) hS (fun H locs hP hS => ?_)
                                      obtain ⟨st41, e41⟩ : ∃ z, z = (fX4_lost st (-6)).2 := ⟨_, rfl⟩
                                      rw [← e41] at hP
                                      exact W.iret (v := (fX4_lost st (-6)).1) hx hb hr (fun t ht hW => ⟨⟨(fX4_lost st (-6)).1, st41, rfl, (by subst e41; simp only [fX4_works, if_neg c_1, if_neg c_3, if_neg c_5, if_neg c_7, if_neg c_9, if_neg c_11, if_neg c_13, if_neg c_15, if_neg c_17, if_neg c_19, if_neg c_21, if_neg c_23, if_neg c_25, if_neg c_27, if_neg c_29, if_neg c_34, if_pos c_39, if_pos c_40]), ow_Bi ht hP⟩, hS.F ht⟩) hS.2.2 dX4_works_247
                                    · refine lv_lload_n hx hb dX4_works_233 rfl (lv_at hl 4 rfl) ?_
                                      refine lv_ldc2 (v := 2) hx hb hown (hts _ lk_X4_works_2) dX4_works_234 ?_
                                      refine W.lcmp hx hb dX4_works_237 ?_
                                      refine lv_if_le (tgt := 248) hx hb dX4_works_238 (by decide) (fun c_42 => ?_) (fun c_42 => ?_)
                                      · refine lv_aload_n hx hb dX4_works_248 rfl (lv_at hl 1 rfl) ?_
                                        refine lv_ldc2 (v := 5) hx hb hown (hts _ lk_X4_works_5) dX4_works_249 ?_
                                        refine lv_ldc2 (v := 2) hx hb hown (hts _ lk_X4_works_2) dX4_works_252 ?_
                                        refine lv_lload_n hx hb dX4_works_255 rfl (lv_at hl 4 rfl) ?_
                                        refine lv_lmul hx hb dX4_works_256 ?_
                                        refine lv_ladd hx hb dX4_works_257 ?_
                                        refine og_put (C := RX4) (T := TX4) (N := 19) (g := 10) (i := 0) (v := .long (5 + (2 * x3))) (ty := .long) hx hb hts li_X4_works_X4 tyX4 tyX4_ok nmX4 hown hC hP hS (ow_q10_0) rfl rfl 17 (by decide) (hts _ lk_X4_works_0) rfl rfl (by decide +kernel) rfl rfl (Nat.le_of_ble_eq_true rfl) (we_10_l2 st (5 + (2 * x3))) dX4_works_258 (fun H locs hP hS => ?_)
                                        obtain ⟨st43, e43⟩ : ∃ z, z = (ow_sl st 2 (5 + (2 * x3))) := ⟨_, rfl⟩
                                        rw [← e43] at hP
                                        refine lv_goto (tgt := 293) hx hb dX4_works_261 (by decide) ?_
                                        refine lv_iconst (v := 1) hx hb dX4_works_293 (by decide) ?_
                                        exact W.iret (v := 1) hx hb hr (fun t ht hW => ⟨⟨1, st43, rfl, (by subst e43; simp only [fX4_works, if_neg c_1, if_neg c_3, if_neg c_5, if_neg c_7, if_neg c_9, if_neg c_11, if_neg c_13, if_neg c_15, if_neg c_17, if_neg c_19, if_neg c_21, if_neg c_23, if_neg c_25, if_neg c_27, if_neg c_29, if_neg c_34, if_pos c_39, if_neg c_40, if_pos c_42]), ow_Bi ht hP⟩, hS.F ht⟩) hS.2.2 dX4_works_294
                                      · refine lv_aload_n hx hb dX4_works_241 rfl (lv_at hl 1 rfl) ?_
                                        refine lv_bipush (v := (-6)) hx hb dX4_works_242 (by decide) ?_
                                        refine og_ciW (og_runV (C := RX4) (T := TX4) (N := 19) (g := 10) (i := 0) (As := [.int (-6)]) (rest := []) ⟨hx, hb, hml, hown, hts⟩ (kX4_lost l D ca ad A st (-6)) (cwV 1 hts gX4_works_X4_lost rfl rfl rfl (by decide +kernel) ⟨Nat.le_of_ble_eq_true rfl, Nat.le_of_ble_eq_true rfl⟩) hC hP hS (ow_q10_0) rfl rfl rfl hl.1 rfl (Nat.le_of_ble_eq_true rfl) dX4_works_244 ⟨Nat.zero_le _, Nat.zero_le _⟩) hS (fun H locs hP hS => ?_)
                                        obtain ⟨st44, e44⟩ : ∃ z, z = (fX4_lost st (-6)).2 := ⟨_, rfl⟩
                                        rw [← e44] at hP
                                        exact W.iret (v := (fX4_lost st (-6)).1) hx hb hr (fun t ht hW => ⟨⟨(fX4_lost st (-6)).1, st44, rfl, (by subst e44; simp only [fX4_works, if_neg c_1, if_neg c_3, if_neg c_5, if_neg c_7, if_neg c_9, if_neg c_11, if_neg c_13, if_neg c_15, if_neg c_17, if_neg c_19, if_neg c_21, if_neg c_23, if_neg c_25, if_neg c_27, if_neg c_29, if_neg c_34, if_pos c_39, if_neg c_40, if_neg c_42]), ow_Bi ht hP⟩, hS.F ht⟩) hS.2.2 dX4_works_247
                                  · by_cases c_45 : ((10 * x1) + x2) = 16
                                    · refine lv_tableIn (tgt := 264) (off := 244) hx hb dX4_works_20 (by rw [c_45]; decide) (by rw [c_45]; decide) (by rw [c_45]; rfl) (by decide) ?_
                                      refine lv_lload_n hx hb dX4_works_264 rfl (lv_at hl 4 rfl) ?_
                                      refine lv_lconst (v := 0) hx hb dX4_works_265 rfl ?_
                                      refine W.lcmp hx hb dX4_works_266 ?_
                                      refine lv_if_ge (tgt := 277) hx hb dX4_works_267 (by decide) (fun c_46 => ?_) (fun c_46 => ?_)
                                      · refine lv_aload_n hx hb dX4_works_277 rfl (lv_at hl 1 rfl) ?_
                                        refine lv_lload_n hx hb dX4_works_278 rfl (lv_at hl 4 rfl) ?_
                                        refine og_put (C := RX4) (T := TX4) (N := 19) (g := 10) (i := 0) (v := .long x3) (ty := .long) hx hb hts li_X4_works_X4 tyX4 tyX4_ok nmX4 hown hC hP hS (ow_q10_0) rfl rfl 17 (by decide) (hts _ lk_X4_works_0) rfl rfl (by decide +kernel) rfl rfl (Nat.le_of_ble_eq_true rfl) (we_10_l2 st x3) dX4_works_279 (fun H locs hP hS => ?_)
                                        obtain ⟨st47, e47⟩ : ∃ z, z = (ow_sl st 2 x3) := ⟨_, rfl⟩
                                        rw [← e47] at hP
                                        refine lv_goto (tgt := 293) hx hb dX4_works_282 (by decide) ?_
                                        refine lv_iconst (v := 1) hx hb dX4_works_293 (by decide) ?_
                                        exact W.iret (v := 1) hx hb hr (fun t ht hW => ⟨⟨1, st47, rfl, (by subst e47; simp only [fX4_works, if_neg c_1, if_neg c_3, if_neg c_5, if_neg c_7, if_neg c_9, if_neg c_11, if_neg c_13, if_neg c_15, if_neg c_17, if_neg c_19, if_neg c_21, if_neg c_23, if_neg c_25, if_neg c_27, if_neg c_29, if_neg c_34, if_neg c_39, if_pos c_45, if_pos c_46]), ow_Bi ht hP⟩, hS.F ht⟩) hS.2.2 dX4_works_294
                                      · refine lv_aload_n hx hb dX4_works_270 rfl (lv_at hl 1 rfl) ?_
                                        refine lv_bipush (v := (-7)) hx hb dX4_works_271 (by decide) ?_
                                        refine og_ciW (og_runV (C := RX4) (T := TX4) (N := 19) (g := 10) (i := 0) (As := [.int (-7)]) (rest := []) ⟨hx, hb, hml, hown, hts⟩ (kX4_lost l D ca ad A st (-7)) (cwV 1 hts gX4_works_X4_lost rfl rfl rfl (by decide +kernel) ⟨Nat.le_of_ble_eq_true rfl, Nat.le_of_ble_eq_true rfl⟩) hC hP hS (ow_q10_0) rfl rfl rfl hl.1 rfl (Nat.le_of_ble_eq_true rfl) dX4_works_273 ⟨Nat.zero_le _, Nat.zero_le _⟩) hS (fun H locs hP hS => ?_)
                                        obtain ⟨st48, e48⟩ : ∃ z, z = (fX4_lost st (-7)).2 := ⟨_, rfl⟩
                                        rw [← e48] at hP
                                        exact W.iret (v := (fX4_lost st (-7)).1) hx hb hr (fun t ht hW => ⟨⟨(fX4_lost st (-7)).1, st48, rfl, (by subst e48; simp only [fX4_works, if_neg c_1, if_neg c_3, if_neg c_5, if_neg c_7, if_neg c_9, if_neg c_11, if_neg c_13, if_neg c_15, if_neg c_17, if_neg c_19, if_neg c_21, if_neg c_23, if_neg c_25, if_neg c_27, if_neg c_29, if_neg c_34, if_neg c_39, if_pos c_45, if_neg c_46]), ow_Bi ht hP⟩, hS.F ht⟩) hS.2.2 dX4_works_276
                                    · refine lv_tableOut (tgt := 285) hx hb dX4_works_20 (by have h0 := ow_ne (n := 0) 0 rfl c_3; have h1 := ow_ne (n := 1) 1 rfl c_5; have h2 := ow_ne (n := 2) 2 rfl c_7; have h3 := ow_ne (n := 3) 3 rfl c_9; have h4 := ow_ne (n := 4) 4 rfl c_11; have h5 := ow_ne (n := 5) 5 rfl c_13; have h6 := ow_ne (n := 6) 6 rfl c_15; have h7 := ow_ne (n := 7) 7 rfl c_17; have h8 := ow_ne (n := 8) 8 rfl c_19; have h9 := ow_ne (n := 9) 9 rfl c_21; have h10 := ow_ne (n := 10) 10 rfl c_23; have h11 := ow_ne (n := 11) 11 rfl c_25; have h12 := ow_ne (n := 12) 12 rfl c_27; have h13 := ow_ne (n := 13) 13 rfl c_29; have h14 := ow_ne (n := 14) 14 rfl c_34; have h15 := ow_ne (n := 15) 15 rfl c_39; have h16 := ow_ne (n := 16) 16 rfl c_45; omega) (by decide) ?_
                                      refine lv_aload_n hx hb dX4_works_285 rfl (lv_at hl 1 rfl) ?_
                                      refine lv_lload_n hx hb dX4_works_286 rfl (lv_at hl 4 rfl) ?_
                                      refine lv_iload_n hx hb dX4_works_287 rfl (lv_at hl 3 rfl) ?_
                                      refine lv_i2l (v := x2.toInt64) hx hb dX4_works_288 rfl ?_
                                      refine lv_lxor hx hb dX4_works_289 ?_
                                      refine og_put (C := RX4) (T := TX4) (N := 19) (g := 10) (i := 0) (v := .long (x3 ^^^ (x2.toInt64))) (ty := .long) hx hb hts li_X4_works_X4 tyX4 tyX4_ok nmX4 hown hC hP hS (ow_q10_0) rfl rfl 17 (by decide) (hts _ lk_X4_works_0) rfl rfl (by decide +kernel) rfl rfl (Nat.le_of_ble_eq_true rfl) (we_10_l2 st (x3 ^^^ (x2.toInt64))) dX4_works_290 (fun H locs hP hS => ?_)
                                      obtain ⟨st49, e49⟩ : ∃ z, z = (ow_sl st 2 (x3 ^^^ (x2.toInt64))) := ⟨_, rfl⟩
                                      rw [← e49] at hP
                                      refine lv_iconst (v := 1) hx hb dX4_works_293 (by decide) ?_
                                      exact W.iret (v := 1) hx hb hr (fun t ht hW => ⟨⟨1, st49, rfl, (by subst e49; simp only [fX4_works, if_neg c_1, if_neg c_3, if_neg c_5, if_neg c_7, if_neg c_9, if_neg c_11, if_neg c_13, if_neg c_15, if_neg c_17, if_neg c_19, if_neg c_21, if_neg c_23, if_neg c_25, if_neg c_27, if_neg c_29, if_neg c_34, if_neg c_39, if_neg c_45]), ow_Bi ht hP⟩, hS.F ht⟩) hS.2.2 dX4_works_294
  · refine lv_bipush (v := 20) hx hb dX4_works_5 (by decide) ?_
    refine lv_goto (tgt := 16) hx hb dX4_works_7 (by decide) ?_
    refine lv_istore (lv' := [(5, .int 20), (0, .ref (ad 10 0)), (1, .int x1), (2, .int x2), (3, .long x3)]) hx hb dX4_works_16 hl (by decide) rfl (fun ls hl => ?_)
    refine lv_iload hx hb dX4_works_18 (lv_at hl 0 rfl) ?_
    refine lv_tableOut (tgt := 285) hx hb dX4_works_20 (by decide) (by decide) ?_
    refine lv_aload_n hx hb dX4_works_285 rfl (lv_at hl 1 rfl) ?_
    refine lv_lload_n hx hb dX4_works_286 rfl (lv_at hl 4 rfl) ?_
    refine lv_iload_n hx hb dX4_works_287 rfl (lv_at hl 3 rfl) ?_
    refine lv_i2l (v := x2.toInt64) hx hb dX4_works_288 rfl ?_
    refine lv_lxor hx hb dX4_works_289 ?_
    refine og_put (C := RX4) (T := TX4) (N := 19) (g := 10) (i := 0) (v := .long (x3 ^^^ (x2.toInt64))) (ty := .long) hx hb hts li_X4_works_X4 tyX4 tyX4_ok nmX4 hown hC hP hS (ow_q10_0) rfl rfl 17 (by decide) (hts _ lk_X4_works_0) rfl rfl (by decide +kernel) rfl rfl (Nat.le_of_ble_eq_true rfl) (we_10_l2 st (x3 ^^^ (x2.toInt64))) dX4_works_290 (fun H locs hP hS => ?_)
    obtain ⟨st2, e2⟩ : ∃ z, z = (ow_sl st 2 (x3 ^^^ (x2.toInt64))) := ⟨_, rfl⟩
    rw [← e2] at hP
    refine lv_iconst (v := 1) hx hb dX4_works_293 (by decide) ?_
    exact W.iret (v := 1) hx hb hr (fun t ht hW => ⟨⟨1, st2, rfl, (by subst e2; simp only [fX4_works, if_pos c_1]), ow_Bi ht hP⟩, hS.F ht⟩) hS.2.2 dX4_works_294

def flX4_size (st : ow_St) (x0 : Int32) : Nat → Nat → Int32 → Int32
  | 0, _, _ => 0
  | n + 1, i, w1 => (if 26 ≤ (nI i) then w1 else (flX4_size st x0 n (i + 1) (w1 + ((x0 >>> ((nI i) &&& 31)) &&& 1)) ))
def fX4_size (st : ow_St) (x0 : Int32) : Int32 := (flX4_size st x0 (26 + 1) 0 (0 : Int32) )
set_option maxHeartbeats 4000000 in
set_option maxRecDepth 100000 in
theorem kX4_size (l : Launch) (D : va_G) (ca : Nat → ClassId) (ad : ow_Ad) (A : Nat → Prop) (st : ow_St) (x0 : Int32) : Met l yX4_size wsX4_size ({ frames := 0, cells := 0, slots := 0, locals := 0 }) (va_Pc [.int x0] (ow_W D ca ad A st)) (va_Qi (fun r st' => r = (fX4_size st x0) ∧ st' = st) (ow_B D ca ad) A) 0 0 A := by
  refine Met.ofW (cc := cX4_size) (maxL := 3) (ret := (some .int)) (by decide) rfl ?_
  intro p e s m args below meth c s₁ B hml hv
  obtain ⟨rfl, hP, hC⟩ := hv
  have hx := B.exec
  have hb := B.bytes
  have hr := B.returns
  have hts := atoms_spec (ws := wsX4_size) B.pre
  have hown : s.vm.findClass RX4 = some m.cls := findClass_of_methodNamed B.named
  have hlocks := B.notSynchronized
  have hS : va_S A s.heap s.heap [] := va_S.rf
  have hl := lv_entry ([.int x0]) (n := 3) (Nat.le_of_ble_eq_true rfl)
  rw [lg_entry_eq]
  generalize (lg_sl ([.int x0]) ++ List.replicate (3 - (lg_sl ([.int x0])).length) Slot.unset).toArray = ls at hl ⊢
  have hl : lv_has ls 3 [(0, .int x0)] := hl
  refine lv_iconst (v := 0) hx hb dX4_size_0 (by decide) ?_
  refine lv_istore_n (lv' := [(1, .int 0), (0, .int x0)]) hx hb dX4_size_1 rfl hl (by decide) rfl (fun ls hl => ?_)
  refine lv_iconst (v := 0) hx hb dX4_size_2 (by decide) ?_
  refine lv_istore_n (lv' := [(2, .int 0), (1, .int 0), (0, .int x0)]) hx hb dX4_size_3 rfl hl (by decide) rfl (fun ls hl => ?_)
  have loop : ∀ (n i : Nat) (w1 : Int32) (H : Heap) (locs : List Loc) (ls : Array Slot), i ≤ 26 → 26 < i + n → flX4_size st x0 n i w1 = (fX4_size st x0) → va_P D vwCl (ow_ws ad (ow_c ca ad st)) H → va_S A s.heap H locs → lv_has ls 3 [(2, .int (nI i)), (1, .int w1), (0, .int x0)] → W p l e (headSpec wsX4_size ({ frames := 0, cells := 0, slots := 0, locals := 0 } : Room)).room s m ([.int x0] : List Value).toArray below meth c H locs 0 0 (MQ below (va_Qi (fun r st' => r = (fX4_size st x0) ∧ st' = st) (ow_B D ca ad) A) ([.int x0] : List Value).toArray s 0 0 A) (F0 m 4 ls []) := by
    intro n
    induction n with
    | zero => intro i w1 H locs ls h1 h2; exact absurd h2 (by omega)
    | succ n ih =>
      intro i w1 H locs ls hle hlt  heq hP hS hl
      refine lv_iload_n hx hb dX4_size_4 rfl (lv_at hl 0 rfl) ?_
      refine lv_bipush (v := 26) hx hb dX4_size_5 (by decide) ?_
      refine lv_icmp_ge (tgt := 24) hx hb dX4_size_7 (by decide) (fun c_1 => ?_) (fun c_1 => ?_)
      · refine lv_iload_n hx hb dX4_size_24 rfl (lv_at hl 1 rfl) ?_
        exact W.iret (v := w1) hx hb hr (fun t ht hW => ⟨⟨w1, st, rfl, ⟨(by rw [← heq]; simp only [flX4_size, if_pos c_1]), rfl⟩, ow_Bi ht hP⟩, hS.F ht⟩) hS.2.2 dX4_size_25
      · refine lv_iload_n hx hb dX4_size_10 rfl (lv_at hl 1 rfl) ?_
        refine lv_iload_n hx hb dX4_size_11 rfl (lv_at hl 2 rfl) ?_
        refine lv_iload_n hx hb dX4_size_12 rfl (lv_at hl 0 rfl) ?_
        refine lv_ishr hx hb dX4_size_13 ?_
        refine lv_iconst (v := 1) hx hb dX4_size_14 (by decide) ?_
        refine lv_iand hx hb dX4_size_15 ?_
        refine lv_iadd hx hb dX4_size_16 ?_
        refine lv_istore_n (lv' := [(1, .int (w1 + ((x0 >>> ((nI i) &&& 31)) &&& 1))), (2, .int (nI i)), (0, .int x0)]) hx hb dX4_size_17 rfl hl (by decide) rfl (fun ls hl => ?_)
        refine lv_iinc (v := (nI (i + 1))) (lv' := [(2, .int (nI (i + 1))), (1, .int (w1 + ((x0 >>> ((nI i) &&& 31)) &&& 1))), (0, .int x0)]) hx hb dX4_size_18 hl (k := 1) rfl (nI_1 _) (by decide) rfl (fun ls hl => ?_)
        refine lv_goto (tgt := 4) hx hb dX4_size_21 (by decide) ?_
        exact ih (i + 1) (w1 + ((x0 >>> ((nI i) &&& 31)) &&& 1))  _ _ _ (ow_lt (b := 26) c_1 hle (by decide)) (by omega)  (by rw [← heq]; simp only [flX4_size, if_neg c_1]) hP hS (lv_sub hl [0, 1, 2] rfl)
  exact loop (26 + 1) 0 (0 : Int32)  _ _ _ (Nat.zero_le _) (by omega)  (by simp only [fX4_size]) hP hS (lv_sub hl [0, 1, 2] rfl)

def fX4_items_0 (st : ow_St) : Int32 := 3
set_option maxHeartbeats 4000000 in
set_option maxRecDepth 100000 in
theorem kX4_items_0 (l : Launch) (D : va_G) (ca : Nat → ClassId) (ad : ow_Ad) (A : Nat → Prop) (st : ow_St)  : Met l yX4_items wsX4_items ({ frames := 0, cells := 0, slots := 0, locals := 0 }) (va_Pc [.int 0] (ow_W D ca ad A st)) (va_Qi (fun r st' => r = (fX4_items_0 st) ∧ st' = st) (ow_B D ca ad) A) 0 0 A := by
  refine Met.ofW (cc := cX4_items) (maxL := 1) (ret := (some .int)) (by decide) rfl ?_
  intro p e s m args below meth c s₁ B hml hv
  obtain ⟨rfl, hP, hC⟩ := hv
  have hx := B.exec
  have hb := B.bytes
  have hr := B.returns
  have hts := atoms_spec (ws := wsX4_items) B.pre
  have hown : s.vm.findClass RX4 = some m.cls := findClass_of_methodNamed B.named
  have hlocks := B.notSynchronized
  have hS : va_S A s.heap s.heap [] := va_S.rf
  have hl := lv_entry ([.int 0]) (n := 1) (Nat.le_of_ble_eq_true rfl)
  rw [lg_entry_eq]
  generalize (lg_sl ([.int 0]) ++ List.replicate (1 - (lg_sl ([.int 0])).length) Slot.unset).toArray = ls at hl ⊢
  have hl : lv_has ls 1 [(0, .int 0)] := hl
  refine lv_iconst (v := 3) hx hb dX4_items_0 (by decide) ?_
  refine lv_iload_n hx hb dX4_items_1 rfl (lv_at hl 0 rfl) ?_
  refine lv_iadd hx hb dX4_items_2 ?_
  rw [show (3 : Int32) + 0 = (3 : Int32) from rfl]
  exact W.iret (v := 3) hx hb hr (fun t ht hW => ⟨⟨3, st, rfl, ⟨(by simp only [fX4_items_0]), rfl⟩, ow_Bi ht hP⟩, hS.F ht⟩) hS.2.2 dX4_items_3

def fX4_items_1 (st : ow_St) : Int32 := 4
set_option maxHeartbeats 4000000 in
set_option maxRecDepth 100000 in
theorem kX4_items_1 (l : Launch) (D : va_G) (ca : Nat → ClassId) (ad : ow_Ad) (A : Nat → Prop) (st : ow_St)  : Met l yX4_items wsX4_items ({ frames := 0, cells := 0, slots := 0, locals := 0 }) (va_Pc [.int 1] (ow_W D ca ad A st)) (va_Qi (fun r st' => r = (fX4_items_1 st) ∧ st' = st) (ow_B D ca ad) A) 0 0 A := by
  refine Met.ofW (cc := cX4_items) (maxL := 1) (ret := (some .int)) (by decide) rfl ?_
  intro p e s m args below meth c s₁ B hml hv
  obtain ⟨rfl, hP, hC⟩ := hv
  have hx := B.exec
  have hb := B.bytes
  have hr := B.returns
  have hts := atoms_spec (ws := wsX4_items) B.pre
  have hown : s.vm.findClass RX4 = some m.cls := findClass_of_methodNamed B.named
  have hlocks := B.notSynchronized
  have hS : va_S A s.heap s.heap [] := va_S.rf
  have hl := lv_entry ([.int 1]) (n := 1) (Nat.le_of_ble_eq_true rfl)
  rw [lg_entry_eq]
  generalize (lg_sl ([.int 1]) ++ List.replicate (1 - (lg_sl ([.int 1])).length) Slot.unset).toArray = ls at hl ⊢
  have hl : lv_has ls 1 [(0, .int 1)] := hl
  refine lv_iconst (v := 3) hx hb dX4_items_0 (by decide) ?_
  refine lv_iload_n hx hb dX4_items_1 rfl (lv_at hl 0 rfl) ?_
  refine lv_iadd hx hb dX4_items_2 ?_
  rw [show (3 : Int32) + 1 = (4 : Int32) from rfl]
  exact W.iret (v := 4) hx hb hr (fun t ht hW => ⟨⟨4, st, rfl, ⟨(by simp only [fX4_items_1]), rfl⟩, ow_Bi ht hP⟩, hS.F ht⟩) hS.2.2 dX4_items_3

def fX4_kindOf_0 (st : ow_St) (x1 : Int32) : Int32 := (if x1 = 0 then 0 else (if x1 = 2 then 2 else (-4)))
set_option maxHeartbeats 4000000 in
set_option maxRecDepth 100000 in
theorem kX4_kindOf_0 (l : Launch) (D : va_G) (ca : Nat → ClassId) (ad : ow_Ad) (A : Nat → Prop) (st : ow_St) (x1 : Int32) : Met l yX4_kindOf wsX4_kindOf ({ frames := 0, cells := 0, slots := 0, locals := 0 }) (va_Pc [.int 0, .int x1] (ow_W D ca ad A st)) (va_Qi (fun r st' => r = (fX4_kindOf_0 st x1) ∧ st' = st) (ow_B D ca ad) A) 0 0 A := by
  refine Met.ofW (cc := cX4_kindOf) (maxL := 2) (ret := (some .int)) (by decide) rfl ?_
  intro p e s m args below meth c s₁ B hml hv
  obtain ⟨rfl, hP, hC⟩ := hv
  have hx := B.exec
  have hb := B.bytes
  have hr := B.returns
  have hts := atoms_spec (ws := wsX4_kindOf) B.pre
  have hown : s.vm.findClass RX4 = some m.cls := findClass_of_methodNamed B.named
  have hlocks := B.notSynchronized
  have hS : va_S A s.heap s.heap [] := va_S.rf
  have hl := lv_entry ([.int 0, .int x1]) (n := 2) (Nat.le_of_ble_eq_true rfl)
  rw [lg_entry_eq]
  generalize (lg_sl ([.int 0, .int x1]) ++ List.replicate (2 - (lg_sl ([.int 0, .int x1])).length) Slot.unset).toArray = ls at hl ⊢
  have hl : lv_has ls 2 [(0, .int 0), (1, .int x1)] := hl
  refine lv_iload_n hx hb dX4_kindOf_0 rfl (lv_at hl 1 rfl) ?_
  refine lv_if_ne (tgt := 8) hx hb dX4_kindOf_1 (by decide) (fun c_1 => ?_) (fun c_1 => ?_)
  · refine lv_iload_n hx hb dX4_kindOf_8 rfl (lv_at hl 0 rfl) ?_
    refine lv_if_ne (tgt := 21) hx hb dX4_kindOf_9 (by decide) (fun c => absurd (by decide) c) (fun _ => ?_)
    refine lv_iload_n hx hb dX4_kindOf_12 rfl (lv_at hl 1 rfl) ?_
    refine lv_iconst (v := 2) hx hb dX4_kindOf_13 (by decide) ?_
    refine lv_icmp_ne (tgt := 21) hx hb dX4_kindOf_14 (by decide) (fun c_2 => ?_) (fun c_2 => ?_)
    · refine lv_bipush (v := (-4)) hx hb dX4_kindOf_21 (by decide) ?_
      exact W.iret (v := (-4)) hx hb hr (fun t ht hW => ⟨⟨(-4), st, rfl, ⟨(by simp only [fX4_kindOf_0, if_neg c_1, if_neg c_2]), rfl⟩, ow_Bi ht hP⟩, hS.F ht⟩) hS.2.2 dX4_kindOf_23
    · refine lv_iconst (v := 2) hx hb dX4_kindOf_17 (by decide) ?_
      refine lv_goto (tgt := 23) hx hb dX4_kindOf_18 (by decide) ?_
      exact W.iret (v := 2) hx hb hr (fun t ht hW => ⟨⟨2, st, rfl, ⟨(by simp only [fX4_kindOf_0, if_neg c_1, if_pos c_2]), rfl⟩, ow_Bi ht hP⟩, hS.F ht⟩) hS.2.2 dX4_kindOf_23
  · refine lv_iload_n hx hb dX4_kindOf_4 rfl (lv_at hl 0 rfl) ?_
    refine lv_goto (tgt := 23) hx hb dX4_kindOf_5 (by decide) ?_
    exact W.iret (v := 0) hx hb hr (fun t ht hW => ⟨⟨0, st, rfl, ⟨(by simp only [fX4_kindOf_0, if_pos c_1]), rfl⟩, ow_Bi ht hP⟩, hS.F ht⟩) hS.2.2 dX4_kindOf_23

def fX4_kindOf_1 (st : ow_St) (x1 : Int32) : Int32 := (if x1 = 0 then 1 else (-4))
set_option maxHeartbeats 4000000 in
set_option maxRecDepth 100000 in
theorem kX4_kindOf_1 (l : Launch) (D : va_G) (ca : Nat → ClassId) (ad : ow_Ad) (A : Nat → Prop) (st : ow_St) (x1 : Int32) : Met l yX4_kindOf wsX4_kindOf ({ frames := 0, cells := 0, slots := 0, locals := 0 }) (va_Pc [.int 1, .int x1] (ow_W D ca ad A st)) (va_Qi (fun r st' => r = (fX4_kindOf_1 st x1) ∧ st' = st) (ow_B D ca ad) A) 0 0 A := by
  refine Met.ofW (cc := cX4_kindOf) (maxL := 2) (ret := (some .int)) (by decide) rfl ?_
  intro p e s m args below meth c s₁ B hml hv
  obtain ⟨rfl, hP, hC⟩ := hv
  have hx := B.exec
  have hb := B.bytes
  have hr := B.returns
  have hts := atoms_spec (ws := wsX4_kindOf) B.pre
  have hown : s.vm.findClass RX4 = some m.cls := findClass_of_methodNamed B.named
  have hlocks := B.notSynchronized
  have hS : va_S A s.heap s.heap [] := va_S.rf
  have hl := lv_entry ([.int 1, .int x1]) (n := 2) (Nat.le_of_ble_eq_true rfl)
  rw [lg_entry_eq]
  generalize (lg_sl ([.int 1, .int x1]) ++ List.replicate (2 - (lg_sl ([.int 1, .int x1])).length) Slot.unset).toArray = ls at hl ⊢
  have hl : lv_has ls 2 [(0, .int 1), (1, .int x1)] := hl
  refine lv_iload_n hx hb dX4_kindOf_0 rfl (lv_at hl 1 rfl) ?_
  refine lv_if_ne (tgt := 8) hx hb dX4_kindOf_1 (by decide) (fun c_1 => ?_) (fun c_1 => ?_)
  · refine lv_iload_n hx hb dX4_kindOf_8 rfl (lv_at hl 0 rfl) ?_
    refine lv_if_ne (tgt := 21) hx hb dX4_kindOf_9 (by decide) (fun _ => ?_) (fun c => absurd c (by decide))
    refine lv_bipush (v := (-4)) hx hb dX4_kindOf_21 (by decide) ?_
    exact W.iret (v := (-4)) hx hb hr (fun t ht hW => ⟨⟨(-4), st, rfl, ⟨(by simp only [fX4_kindOf_1, if_neg c_1]), rfl⟩, ow_Bi ht hP⟩, hS.F ht⟩) hS.2.2 dX4_kindOf_23
  · refine lv_iload_n hx hb dX4_kindOf_4 rfl (lv_at hl 0 rfl) ?_
    refine lv_goto (tgt := 23) hx hb dX4_kindOf_5 (by decide) ?_
    exact W.iret (v := 1) hx hb hr (fun t ht hW => ⟨⟨1, st, rfl, ⟨(by simp only [fX4_kindOf_1, if_pos c_1]), rfl⟩, ow_Bi ht hP⟩, hS.F ht⟩) hS.2.2 dX4_kindOf_23

theorem con_in {st : ow_St} {x y : Int32} (hk : vp_in x 3) (hm : iv_mc st) (h : ¬ fX4_isCode st x y = 0) : vp_in (fX4_constant st x y) (mn x.toNatClampNeg) := by
  unfold fX4_constant
  rw [if_neg h]
  exact hm x y hk (isC_in hk h)
theorem at_in {x : Int32} {d : Nat} (h : ∃ a, a + 3 < 240 ∧ x = nI a) (hd : d ≤ 3) : vp_in (x + nI d) 240 := by
  obtain ⟨a, ha, rfl⟩ := h
  rw [nI_add]
  exact vp_in_nI (by omega) (by decide)
theorem at_in0 {x : Int32} (h : ∃ a, a + 3 < 240 ∧ x = nI a) : vp_in x 240 := by
  obtain ⟨a, ha, rfl⟩ := h
  exact vp_in_nI (by omega) (by decide)
theorem mul4 (n : Nat) : (4 : Int32) * nI n = nI (4 * n) := pk_mul 4 n
theorem at_0 {x : Int32} (h : ∃ n, n < 30 ∧ x = nI n) : ∃ a, a + 3 < 240 ∧ (0 + (4 * x)) = nI a := by
  obtain ⟨n, hn, rfl⟩ := h
  exact ⟨4 * n, by omega, by rw [mul4, show (0 : Int32) = nI 0 from rfl, nI_add, Nat.zero_add]⟩
theorem at_1 {x : Int32} (h : ∃ n, n < 30 ∧ x = nI n) : ∃ a, a + 3 < 240 ∧ (120 + (4 * x)) = nI a := by
  obtain ⟨n, hn, rfl⟩ := h
  exact ⟨120 + 4 * n, by omega, by rw [mul4, show (120 : Int32) = nI 120 from rfl, nI_add]⟩
theorem rc_lt {st : ow_St} {t : Nat} (h : iv_mz st t) (h2 : ¬ st.1 56 t = 30) : ∃ n, n < 30 ∧ st.1 56 t = nI n := by
  obtain ⟨n, hn, e⟩ := h
  refine ⟨n, ?_, e⟩
  rcases Nat.lt_or_ge n 30 with h3 | h3
  · exact h3
  · exact absurd (by rw [e, show n = 30 by omega]; rfl) h2
theorem rc_of {st : ow_St} {t : Nat} {x : Int32} (h : iv_mz st t) (h2 : ¬ fX4_isIn st x 0 (st.1 56 t - 1) = 0) : ∃ n, n < 30 ∧ x = nI n := by
  obtain ⟨n, hn, e⟩ := h
  obtain ⟨a1, a2⟩ := isIn_t h2
  obtain ⟨j, hj, rfl⟩ := nI_of (Int32.not_lt.mpr a1)
  refine ⟨j, ?_, rfl⟩
  rw [e] at a2
  cases n with
  | zero => exact absurd a2 (by rw [show nI 0 - 1 = (-1 : Int32) from rfl]; exact fun q => nI_pos hj (Int32.lt_of_le_of_lt q (by decide)))
  | succ n =>
    rw [nI_pred] at a2
    have := (nI_leI hj (by omega)).mp a2
    omega
theorem itx_0 {st : ow_St} {x : Int32} (h : ¬ fX4_isIn st x 0 2 = 0) : ∃ d, d ≤ 3 ∧ x = nI d := by
  obtain ⟨j, hj, e⟩ := vp_in_of (le_in (n := 2) rfl (by decide) (isIn_t h)) (by decide)
  exact ⟨j, by omega, e⟩
theorem itx_1 {st : ow_St} {x : Int32} (h : ¬ fX4_isIn st x 0 3 = 0) : ∃ d, d ≤ 3 ∧ x = nI d := by
  obtain ⟨j, hj, e⟩ := vp_in_of (le_in (n := 3) rfl (by decide) (isIn_t h)) (by decide)
  exact ⟨j, by omega, e⟩
theorem at_inx {x y : Int32} (h : ∃ a, a + 3 < 240 ∧ x = nI a) (hd : ∃ d, d ≤ 3 ∧ y = nI d) : vp_in (x + y) 240 := by
  obtain ⟨d, hd, rfl⟩ := hd
  exact at_in h hd
theorem d_in {y : Int32} (hd : ∃ d, d ≤ 3 ∧ y = nI d) : vp_in y 4 := by
  obtain ⟨d, hd, rfl⟩ := hd
  exact vp_in_nI (by omega) (by decide)
theorem kd_in_0 {st : ow_St} {x : Int32} (h : ¬ fX4_kindOf_0 st x = (-4)) : vp_in (fX4_kindOf_0 st x) 3 := by
  unfold fX4_kindOf_0 at h ⊢
  split
  · unfold vp_in; decide
  · rename_i c
    rw [if_neg c] at h
    split
    · unfold vp_in; decide
    · rename_i c2
      rw [if_neg c2] at h
      exact absurd rfl h
theorem kd_in_1 {st : ow_St} {x : Int32} (h : ¬ fX4_kindOf_1 st x = (-4)) : vp_in (fX4_kindOf_1 st x) 3 := by
  unfold fX4_kindOf_1 at h ⊢
  split
  · unfold vp_in; decide
  · rename_i c
    rw [if_neg c] at h
    exact absurd rfl h
theorem cn_0 {st : ow_St} {x y : Int32} (h : ¬ fX4_kindOf_0 st x = (-4)) (h0 : x = 0 → ¬ y = (-1) → vp_in y 5) (h2 : x = 2 → ¬ y = (-1) → vp_in y 26) (hy : ¬ y = (-1)) : vp_in (26 * fX4_kindOf_0 st x + y) 78 := by
  refine ix_in (kd_in_0 h) ?_
  unfold fX4_kindOf_0 at h ⊢
  split
  · rename_i c; exact h0 c hy
  · rename_i c
    rw [if_neg c] at h
    split
    · rename_i c2; exact h2 c2 hy
    · rename_i c2
      rw [if_neg c2] at h
      exact absurd rfl h
theorem cn_1 {st : ow_St} {x y : Int32} (h : ¬ fX4_kindOf_1 st x = (-4)) (h0 : x = 0 → ¬ y = (-1) → vp_in y 7) (hy : ¬ y = (-1)) : vp_in (26 * fX4_kindOf_1 st x + y) 78 := by
  refine ix_in (kd_in_1 h) ?_
  unfold fX4_kindOf_1 at h ⊢
  split
  · rename_i c; exact h0 c hy
  · rename_i c
    rw [if_neg c] at h
    exact absurd rfl h
