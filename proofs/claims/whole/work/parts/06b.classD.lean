theorem ln_X3_code_0 : (.methodLinkNest RX3 86 yX0_constantNamed "RecordLabels" : Cond) ∈ ow_nest := by decide +kernel
theorem lk_X3_code_1 : (.initialized RX0 : Cond) ∈ wsX3_code := by decide +kernel
theorem lk_X3_code_2 : (.instanceMethod yX0_constantNamed : Cond) ∈ wsX3_code := by decide +kernel
theorem lk_X3_code_3 : (.selects RX0 yX0_constantNamed yX0_constantNamed : Cond) ∈ wsX3_code := by decide +kernel
theorem ln_X3_code_4 : (.methodLinkNest RX3 90 yX0_codeOf "RecordLabels" : Cond) ∈ ow_nest := by decide +kernel
theorem lk_X3_code_5 : (.instanceMethod yX0_codeOf : Cond) ∈ wsX3_code := by decide +kernel
theorem lk_X3_code_6 : (.selects RX0 yX0_codeOf yX0_codeOf : Cond) ∈ wsX3_code := by decide +kernel
def fX3_code (st : ow_St) (x1 : Int32) (x2 : Int64) : Int32 := (if x1 = 0 then (if (fX0_constantNamed st 0 x2) = (-1) then (-4) else (fX0_codeOf st 0 (fX0_constantNamed st 0 x2))) else (if x1 = 1 then (if (fX0_constantNamed st 1 x2) = (-1) then (-4) else (fX0_codeOf st 1 (fX0_constantNamed st 1 x2))) else (if x1 = 2 then (if (fX0_constantNamed st 2 x2) = (-1) then (-4) else (fX0_codeOf st 2 (fX0_constantNamed st 2 x2))) else (-1))))
set_option maxHeartbeats 4000000 in
set_option maxRecDepth 100000 in
theorem kX3_code (l : Launch) (D : va_G) (ca : Nat → ClassId) (ad : ow_Ad) (A : Nat → Prop) (st : ow_St) (x1 : Int32) (x2 : Int64) : Met l yX3_code wsX3_code ({ frames := 2, cells := 0, slots := 0, locals := 42 }) (va_Pc [.ref (ad 0 0), .int x1, .long x2] (ow_W D ca ad A st)) (va_Qi (fun r st' => r = (fX3_code st x1 x2) ∧ st' = st) (ow_B D ca ad) A) 0 0 A := by
  refine Met.ofW (cc := cX3_code) (maxL := 6) (ret := (some .int)) (by decide) rfl ?_
  intro p e s m args below meth c s₁ B hml hv
  obtain ⟨rfl, hP, hC⟩ := hv
  have hx := B.exec
  have hb := B.bytes
  have hr := B.returns
  have hts := atoms_spec (ws := wsX3_code) B.pre
  have hown : s.vm.findClass RX3 = some m.cls := findClass_of_methodNamed B.named
  have hlocks := B.notSynchronized
  have hS : va_S A s.heap s.heap [] := va_S.rf
  have hl := lv_entry ([.ref (ad 0 0), .int x1, .long x2]) (n := 6) (Nat.le_of_ble_eq_true rfl)
  rw [lg_entry_eq]
  generalize (lg_sl ([.ref (ad 0 0), .int x1, .long x2]) ++ List.replicate (6 - (lg_sl ([.ref (ad 0 0), .int x1, .long x2])).length) Slot.unset).toArray = ls at hl ⊢
  have hl : lv_has ls 6 [(0, .ref (ad 0 0)), (1, .int x1), (2, .long x2)] := hl
  refine lv_aload_n hx hb dX3_code_0 rfl (lv_at hl 0 rfl) ?_
  refine lv_iload_n hx hb dX3_code_1 rfl (lv_at hl 1 rfl) ?_
  by_cases c_1 : x1 = 0
  · refine og_cqS (q := ad 1 0) (og_runV (C := RX3) (T := TX3) (N := 14) (g := 0) (i := 0) (As := [.int x1]) (rest := []) ⟨hx, hb, hml, hown, hts⟩ (kX3_kindNumbered l D ca ad A st x1) (cwV 1 hts gX3_code_X3_kindNumbered rfl rfl rfl (by decide +kernel) ⟨Nat.le_of_ble_eq_true rfl, Nat.le_of_ble_eq_true rfl⟩) hC hP hS (ow_q0_0) rfl rfl rfl hl.1 rfl (Nat.le_of_ble_eq_true rfl) dX3_code_2 ⟨Nat.zero_le _, Nat.zero_le _⟩) hS (by simp only [fX3_kindNumbered, if_pos c_1]) (fun H locs hP hS => ?_)
    refine lv_astore (lv' := [(4, .ref (ad 1 0)), (0, .ref (ad 0 0)), (1, .int x1), (2, .long x2)]) hx hb dX3_code_5 hl (by decide) rfl (fun ls hl => ?_)
    refine lv_aload hx hb dX3_code_7 (lv_at hl 0 rfl) ?_
    refine lv_ifnonnull (tgt := 14) hx hb dX3_code_9 (by decide) ?_
    refine lv_aload hx hb dX3_code_14 (lv_at hl 0 rfl) ?_
    refine lv_lload_n hx hb dX3_code_16 rfl (lv_at hl 3 rfl) ?_
    refine og_ciP (og_runVN (C := RX0) (T := TX0) (N := 7) (g := 1) (i := 0) (As := [.long x2]) (rest := []) ⟨hx, hb, hml, hown, hts⟩ (kX0_constantNamed l D ca ad A st 0 (by decide) x2) ⟨va_cnB 1 hts gX3_code_X0_constantNamed_n86 rfl rfl rfl (hC.2.2.1 _ ln_X3_code_0) (hts _ lk_X3_code_1) (by decide +kernel) ⟨Nat.le_of_ble_eq_true rfl, Nat.le_of_ble_eq_true rfl⟩, (hts _ lk_X3_code_2), (hts _ lk_X3_code_3)⟩ hC hP hS (ow_q1_0) rfl rfl rfl hl.1 rfl (Nat.le_of_ble_eq_true rfl) dX3_code_17 ⟨Nat.zero_le _, Nat.zero_le _⟩) hS (fun H locs hP hS => ?_)
    refine lv_istore (lv' := [(5, .int (fX0_constantNamed st 0 x2)), (4, .ref (ad 1 0)), (0, .ref (ad 0 0)), (1, .int x1), (2, .long x2)]) hx hb dX3_code_20 hl (by decide) rfl (fun ls hl => ?_)
    refine lv_iload hx hb dX3_code_22 (lv_at hl 0 rfl) ?_
    refine lv_iconst (v := (-1)) hx hb dX3_code_24 (by decide) ?_
    refine lv_icmp_ne (tgt := 33) hx hb dX3_code_25 (by decide) (fun c_2 => ?_) (fun c_2 => ?_)
    · refine lv_aload hx hb dX3_code_33 (lv_at hl 1 rfl) ?_
      refine lv_iload hx hb dX3_code_35 (lv_at hl 0 rfl) ?_
      refine og_ciP (og_runVN (C := RX0) (T := TX0) (N := 7) (g := 1) (i := 0) (As := [.int (fX0_constantNamed st 0 x2)]) (rest := []) ⟨hx, hb, hml, hown, hts⟩ (kX0_codeOf l D ca ad A st 0 (by decide) (fX0_constantNamed st 0 x2)) ⟨va_cnB 1 hts gX3_code_X0_codeOf_n90 rfl rfl rfl (hC.2.2.1 _ ln_X3_code_4) (hts _ lk_X3_code_1) (by decide +kernel) ⟨Nat.le_of_ble_eq_true rfl, Nat.le_of_ble_eq_true rfl⟩, (hts _ lk_X3_code_5), (hts _ lk_X3_code_6)⟩ hC hP hS (ow_q1_0) rfl rfl rfl hl.1 rfl (Nat.le_of_ble_eq_true rfl) dX3_code_37 ⟨Nat.zero_le _, Nat.zero_le _⟩) hS (fun H locs hP hS => ?_)
      exact W.iret (v := (fX0_codeOf st 0 (fX0_constantNamed st 0 x2))) hx hb hr (fun t ht hW => ⟨⟨(fX0_codeOf st 0 (fX0_constantNamed st 0 x2)), st, rfl, ⟨(by simp only [fX3_code, if_pos c_1, if_neg c_2]), rfl⟩, ow_Bi ht hP⟩, hS.F ht⟩) hS.2.2 dX3_code_40
    · refine lv_bipush (v := (-4)) hx hb dX3_code_28 (by decide) ?_
      refine lv_goto (tgt := 40) hx hb dX3_code_30 (by decide) ?_
      exact W.iret (v := (-4)) hx hb hr (fun t ht hW => ⟨⟨(-4), st, rfl, ⟨(by simp only [fX3_code, if_pos c_1, if_pos c_2]), rfl⟩, ow_Bi ht hP⟩, hS.F ht⟩) hS.2.2 dX3_code_40
  · by_cases c_3 : x1 = 1
    · refine og_cqS (q := ad 1 1) (og_runV (C := RX3) (T := TX3) (N := 14) (g := 0) (i := 0) (As := [.int x1]) (rest := []) ⟨hx, hb, hml, hown, hts⟩ (kX3_kindNumbered l D ca ad A st x1) (cwV 1 hts gX3_code_X3_kindNumbered rfl rfl rfl (by decide +kernel) ⟨Nat.le_of_ble_eq_true rfl, Nat.le_of_ble_eq_true rfl⟩) hC hP hS (ow_q0_0) rfl rfl rfl hl.1 rfl (Nat.le_of_ble_eq_true rfl) dX3_code_2 ⟨Nat.zero_le _, Nat.zero_le _⟩) hS (by simp only [fX3_kindNumbered, if_neg c_1, if_pos c_3]) (fun H locs hP hS => ?_)
      refine lv_astore (lv' := [(4, .ref (ad 1 1)), (0, .ref (ad 0 0)), (1, .int x1), (2, .long x2)]) hx hb dX3_code_5 hl (by decide) rfl (fun ls hl => ?_)
      refine lv_aload hx hb dX3_code_7 (lv_at hl 0 rfl) ?_
      refine lv_ifnonnull (tgt := 14) hx hb dX3_code_9 (by decide) ?_
      refine lv_aload hx hb dX3_code_14 (lv_at hl 0 rfl) ?_
      refine lv_lload_n hx hb dX3_code_16 rfl (lv_at hl 3 rfl) ?_
      refine og_ciP (og_runVN (C := RX0) (T := TX0) (N := 7) (g := 1) (i := 1) (As := [.long x2]) (rest := []) ⟨hx, hb, hml, hown, hts⟩ (kX0_constantNamed l D ca ad A st 1 (by decide) x2) ⟨va_cnB 1 hts gX3_code_X0_constantNamed_n86 rfl rfl rfl (hC.2.2.1 _ ln_X3_code_0) (hts _ lk_X3_code_1) (by decide +kernel) ⟨Nat.le_of_ble_eq_true rfl, Nat.le_of_ble_eq_true rfl⟩, (hts _ lk_X3_code_2), (hts _ lk_X3_code_3)⟩ hC hP hS (ow_q1_1) rfl rfl rfl hl.1 rfl (Nat.le_of_ble_eq_true rfl) dX3_code_17 ⟨Nat.zero_le _, Nat.zero_le _⟩) hS (fun H locs hP hS => ?_)
      refine lv_istore (lv' := [(5, .int (fX0_constantNamed st 1 x2)), (4, .ref (ad 1 1)), (0, .ref (ad 0 0)), (1, .int x1), (2, .long x2)]) hx hb dX3_code_20 hl (by decide) rfl (fun ls hl => ?_)
      refine lv_iload hx hb dX3_code_22 (lv_at hl 0 rfl) ?_
      refine lv_iconst (v := (-1)) hx hb dX3_code_24 (by decide) ?_
      refine lv_icmp_ne (tgt := 33) hx hb dX3_code_25 (by decide) (fun c_4 => ?_) (fun c_4 => ?_)
      · refine lv_aload hx hb dX3_code_33 (lv_at hl 1 rfl) ?_
        refine lv_iload hx hb dX3_code_35 (lv_at hl 0 rfl) ?_
        refine og_ciP (og_runVN (C := RX0) (T := TX0) (N := 7) (g := 1) (i := 1) (As := [.int (fX0_constantNamed st 1 x2)]) (rest := []) ⟨hx, hb, hml, hown, hts⟩ (kX0_codeOf l D ca ad A st 1 (by decide) (fX0_constantNamed st 1 x2)) ⟨va_cnB 1 hts gX3_code_X0_codeOf_n90 rfl rfl rfl (hC.2.2.1 _ ln_X3_code_4) (hts _ lk_X3_code_1) (by decide +kernel) ⟨Nat.le_of_ble_eq_true rfl, Nat.le_of_ble_eq_true rfl⟩, (hts _ lk_X3_code_5), (hts _ lk_X3_code_6)⟩ hC hP hS (ow_q1_1) rfl rfl rfl hl.1 rfl (Nat.le_of_ble_eq_true rfl) dX3_code_37 ⟨Nat.zero_le _, Nat.zero_le _⟩) hS (fun H locs hP hS => ?_)
        exact W.iret (v := (fX0_codeOf st 1 (fX0_constantNamed st 1 x2))) hx hb hr (fun t ht hW => ⟨⟨(fX0_codeOf st 1 (fX0_constantNamed st 1 x2)), st, rfl, ⟨(by simp only [fX3_code, if_neg c_1, if_pos c_3, if_neg c_4]), rfl⟩, ow_Bi ht hP⟩, hS.F ht⟩) hS.2.2 dX3_code_40
      · refine lv_bipush (v := (-4)) hx hb dX3_code_28 (by decide) ?_
        refine lv_goto (tgt := 40) hx hb dX3_code_30 (by decide) ?_
        exact W.iret (v := (-4)) hx hb hr (fun t ht hW => ⟨⟨(-4), st, rfl, ⟨(by simp only [fX3_code, if_neg c_1, if_pos c_3, if_pos c_4]), rfl⟩, ow_Bi ht hP⟩, hS.F ht⟩) hS.2.2 dX3_code_40
    · by_cases c_5 : x1 = 2
      · refine og_cqS (q := ad 1 2) (og_runV (C := RX3) (T := TX3) (N := 14) (g := 0) (i := 0) (As := [.int x1]) (rest := []) ⟨hx, hb, hml, hown, hts⟩ (kX3_kindNumbered l D ca ad A st x1) (cwV 1 hts gX3_code_X3_kindNumbered rfl rfl rfl (by decide +kernel) ⟨Nat.le_of_ble_eq_true rfl, Nat.le_of_ble_eq_true rfl⟩) hC hP hS (ow_q0_0) rfl rfl rfl hl.1 rfl (Nat.le_of_ble_eq_true rfl) dX3_code_2 ⟨Nat.zero_le _, Nat.zero_le _⟩) hS (by simp only [fX3_kindNumbered, if_neg c_1, if_neg c_3, if_pos c_5]) (fun H locs hP hS => ?_)
        refine lv_astore (lv' := [(4, .ref (ad 1 2)), (0, .ref (ad 0 0)), (1, .int x1), (2, .long x2)]) hx hb dX3_code_5 hl (by decide) rfl (fun ls hl => ?_)
        refine lv_aload hx hb dX3_code_7 (lv_at hl 0 rfl) ?_
        refine lv_ifnonnull (tgt := 14) hx hb dX3_code_9 (by decide) ?_
        refine lv_aload hx hb dX3_code_14 (lv_at hl 0 rfl) ?_
        refine lv_lload_n hx hb dX3_code_16 rfl (lv_at hl 3 rfl) ?_
        refine og_ciP (og_runVN (C := RX0) (T := TX0) (N := 7) (g := 1) (i := 2) (As := [.long x2]) (rest := []) ⟨hx, hb, hml, hown, hts⟩ (kX0_constantNamed l D ca ad A st 2 (by decide) x2) ⟨va_cnB 1 hts gX3_code_X0_constantNamed_n86 rfl rfl rfl (hC.2.2.1 _ ln_X3_code_0) (hts _ lk_X3_code_1) (by decide +kernel) ⟨Nat.le_of_ble_eq_true rfl, Nat.le_of_ble_eq_true rfl⟩, (hts _ lk_X3_code_2), (hts _ lk_X3_code_3)⟩ hC hP hS (ow_q1_2) rfl rfl rfl hl.1 rfl (Nat.le_of_ble_eq_true rfl) dX3_code_17 ⟨Nat.zero_le _, Nat.zero_le _⟩) hS (fun H locs hP hS => ?_)
        refine lv_istore (lv' := [(5, .int (fX0_constantNamed st 2 x2)), (4, .ref (ad 1 2)), (0, .ref (ad 0 0)), (1, .int x1), (2, .long x2)]) hx hb dX3_code_20 hl (by decide) rfl (fun ls hl => ?_)
        refine lv_iload hx hb dX3_code_22 (lv_at hl 0 rfl) ?_
        refine lv_iconst (v := (-1)) hx hb dX3_code_24 (by decide) ?_
        refine lv_icmp_ne (tgt := 33) hx hb dX3_code_25 (by decide) (fun c_6 => ?_) (fun c_6 => ?_)
        · refine lv_aload hx hb dX3_code_33 (lv_at hl 1 rfl) ?_
          refine lv_iload hx hb dX3_code_35 (lv_at hl 0 rfl) ?_
          refine og_ciP (og_runVN (C := RX0) (T := TX0) (N := 7) (g := 1) (i := 2) (As := [.int (fX0_constantNamed st 2 x2)]) (rest := []) ⟨hx, hb, hml, hown, hts⟩ (kX0_codeOf l D ca ad A st 2 (by decide) (fX0_constantNamed st 2 x2)) ⟨va_cnB 1 hts gX3_code_X0_codeOf_n90 rfl rfl rfl (hC.2.2.1 _ ln_X3_code_4) (hts _ lk_X3_code_1) (by decide +kernel) ⟨Nat.le_of_ble_eq_true rfl, Nat.le_of_ble_eq_true rfl⟩, (hts _ lk_X3_code_5), (hts _ lk_X3_code_6)⟩ hC hP hS (ow_q1_2) rfl rfl rfl hl.1 rfl (Nat.le_of_ble_eq_true rfl) dX3_code_37 ⟨Nat.zero_le _, Nat.zero_le _⟩) hS (fun H locs hP hS => ?_)
          exact W.iret (v := (fX0_codeOf st 2 (fX0_constantNamed st 2 x2))) hx hb hr (fun t ht hW => ⟨⟨(fX0_codeOf st 2 (fX0_constantNamed st 2 x2)), st, rfl, ⟨(by simp only [fX3_code, if_neg c_1, if_neg c_3, if_pos c_5, if_neg c_6]), rfl⟩, ow_Bi ht hP⟩, hS.F ht⟩) hS.2.2 dX3_code_40
        · refine lv_bipush (v := (-4)) hx hb dX3_code_28 (by decide) ?_
          refine lv_goto (tgt := 40) hx hb dX3_code_30 (by decide) ?_
          exact W.iret (v := (-4)) hx hb hr (fun t ht hW => ⟨⟨(-4), st, rfl, ⟨(by simp only [fX3_code, if_neg c_1, if_neg c_3, if_pos c_5, if_pos c_6]), rfl⟩, ow_Bi ht hP⟩, hS.F ht⟩) hS.2.2 dX3_code_40
      · refine og_cqN (og_runV (C := RX3) (T := TX3) (N := 14) (g := 0) (i := 0) (As := [.int x1]) (rest := []) ⟨hx, hb, hml, hown, hts⟩ (kX3_kindNumbered l D ca ad A st x1) (cwV 1 hts gX3_code_X3_kindNumbered rfl rfl rfl (by decide +kernel) ⟨Nat.le_of_ble_eq_true rfl, Nat.le_of_ble_eq_true rfl⟩) hC hP hS (ow_q0_0) rfl rfl rfl hl.1 rfl (Nat.le_of_ble_eq_true rfl) dX3_code_2 ⟨Nat.zero_le _, Nat.zero_le _⟩) hS (by simp only [fX3_kindNumbered, if_neg c_1, if_neg c_3, if_neg c_5]) (fun H locs hP hS => ?_)
        refine lv_astoreN (lv' := [(4, .null), (0, .ref (ad 0 0)), (1, .int x1), (2, .long x2)]) hx hb dX3_code_5 hl (by decide) rfl (fun ls hl => ?_)
        refine lv_aloadN hx hb dX3_code_7 (lv_at hl 0 rfl) ?_
        refine lv_ifnonnullN hx hb dX3_code_9 ?_
        refine lv_iconst (v := (-1)) hx hb dX3_code_12 (by decide) ?_
        exact W.iret (v := (-1)) hx hb hr (fun t ht hW => ⟨⟨(-1), st, rfl, ⟨(by simp only [fX3_code, if_neg c_1, if_neg c_3, if_neg c_5]), rfl⟩, ow_Bi ht hP⟩, hS.F ht⟩) hS.2.2 dX3_code_13

theorem ln_X3_name_0 : (.methodLinkNest RX3 94 yX0_constantOf "RecordLabels" : Cond) ∈ ow_nest := by decide +kernel
theorem lk_X3_name_1 : (.initialized RX0 : Cond) ∈ wsX3_name := by decide +kernel
theorem lk_X3_name_2 : (.instanceMethod yX0_constantOf : Cond) ∈ wsX3_name := by decide +kernel
theorem lk_X3_name_3 : (.selects RX0 yX0_constantOf yX0_constantOf : Cond) ∈ wsX3_name := by decide +kernel
theorem ln_X3_name_4 : (.methodLinkNest RX3 97 yX0_nameOf "RecordLabels" : Cond) ∈ ow_nest := by decide +kernel
theorem lk_X3_name_5 : (.instanceMethod yX0_nameOf : Cond) ∈ wsX3_name := by decide +kernel
theorem lk_X3_name_6 : (.selects RX0 yX0_nameOf yX0_nameOf : Cond) ∈ wsX3_name := by decide +kernel
def fX3_name (st : ow_St) (x1 x2 : Int32) : Int64 := (if x1 = 0 then (fX0_nameOf st 0 (fX0_constantOf st 0 x2)) else (if x1 = 1 then (fX0_nameOf st 1 (fX0_constantOf st 1 x2)) else (if x1 = 2 then (fX0_nameOf st 2 (fX0_constantOf st 2 x2)) else 0)))
set_option maxHeartbeats 4000000 in
set_option maxRecDepth 100000 in
theorem kX3_name (l : Launch) (D : va_G) (ca : Nat → ClassId) (ad : ow_Ad) (A : Nat → Prop) (st : ow_St) (x1 : Int32) (x2 : Int32) (hv : iv_con st) : Met l yX3_name wsX3_name ({ frames := 2, cells := 0, slots := 0, locals := 42 }) (va_Pc [.ref (ad 0 0), .int x1, .int x2] (ow_W D ca ad A st)) (va_Ql (fun r st' => r = (fX3_name st x1 x2) ∧ st' = st) (ow_B D ca ad) A) 0 0 A := by
  refine Met.ofW (cc := cX3_name) (maxL := 4) (ret := (some .long)) (by decide) rfl ?_
  intro p e s m args below meth c s₁ B hml hv
  obtain ⟨rfl, hP, hC⟩ := hv
  have hx := B.exec
  have hb := B.bytes
  have hr := B.returns
  have hts := atoms_spec (ws := wsX3_name) B.pre
  have hown : s.vm.findClass RX3 = some m.cls := findClass_of_methodNamed B.named
  have hlocks := B.notSynchronized
  have hS : va_S A s.heap s.heap [] := va_S.rf
  have hl := lv_entry ([.ref (ad 0 0), .int x1, .int x2]) (n := 4) (Nat.le_of_ble_eq_true rfl)
  rw [lg_entry_eq]
  generalize (lg_sl ([.ref (ad 0 0), .int x1, .int x2]) ++ List.replicate (4 - (lg_sl ([.ref (ad 0 0), .int x1, .int x2])).length) Slot.unset).toArray = ls at hl ⊢
  have hl : lv_has ls 4 [(0, .ref (ad 0 0)), (1, .int x1), (2, .int x2)] := hl
  refine lv_aload_n hx hb dX3_name_0 rfl (lv_at hl 0 rfl) ?_
  refine lv_iload_n hx hb dX3_name_1 rfl (lv_at hl 1 rfl) ?_
  by_cases c_1 : x1 = 0
  · refine og_cqS (q := ad 1 0) (og_runV (C := RX3) (T := TX3) (N := 14) (g := 0) (i := 0) (As := [.int x1]) (rest := []) ⟨hx, hb, hml, hown, hts⟩ (kX3_kindNumbered l D ca ad A st x1) (cwV 1 hts gX3_name_X3_kindNumbered rfl rfl rfl (by decide +kernel) ⟨Nat.le_of_ble_eq_true rfl, Nat.le_of_ble_eq_true rfl⟩) hC hP hS (ow_q0_0) rfl rfl rfl hl.1 rfl (Nat.le_of_ble_eq_true rfl) dX3_name_2 ⟨Nat.zero_le _, Nat.zero_le _⟩) hS (by simp only [fX3_kindNumbered, if_pos c_1]) (fun H locs hP hS => ?_)
    refine lv_astore_n (lv' := [(3, .ref (ad 1 0)), (0, .ref (ad 0 0)), (1, .int x1), (2, .int x2)]) hx hb dX3_name_5 rfl hl (by decide) rfl (fun ls hl => ?_)
    refine lv_aload_n hx hb dX3_name_6 rfl (lv_at hl 0 rfl) ?_
    refine lv_ifnonnull (tgt := 14) hx hb dX3_name_7 (by decide) ?_
    refine lv_aload_n hx hb dX3_name_14 rfl (lv_at hl 0 rfl) ?_
    refine lv_aload_n hx hb dX3_name_15 rfl (lv_at hl 0 rfl) ?_
    refine lv_iload_n hx hb dX3_name_16 rfl (lv_at hl 3 rfl) ?_
    refine og_ciP (og_runVN (C := RX0) (T := TX0) (N := 7) (g := 1) (i := 0) (As := [.int x2]) (rest := [.ref (ad 1 0)]) ⟨hx, hb, hml, hown, hts⟩ (kX0_constantOf l D ca ad A st 0 (by decide) x2) ⟨va_cnB 1 hts gX3_name_X0_constantOf_n94 rfl rfl rfl (hC.2.2.1 _ ln_X3_name_0) (hts _ lk_X3_name_1) (by decide +kernel) ⟨Nat.le_of_ble_eq_true rfl, Nat.le_of_ble_eq_true rfl⟩, (hts _ lk_X3_name_2), (hts _ lk_X3_name_3)⟩ hC hP hS (ow_q1_0) rfl rfl rfl hl.1 rfl (Nat.le_of_ble_eq_true rfl) dX3_name_17 ⟨Nat.zero_le _, Nat.zero_le _⟩) hS (fun H locs hP hS => ?_)
    refine og_clP (og_runVN (C := RX0) (T := TX0) (N := 7) (g := 1) (i := 0) (As := [.int (fX0_constantOf st 0 x2)]) (rest := []) ⟨hx, hb, hml, hown, hts⟩ (kX0_nameOf l D ca ad A st 0 (by decide) (fX0_constantOf st 0 x2)) ⟨va_cnB 1 hts gX3_name_X0_nameOf_n97 rfl rfl rfl (hC.2.2.1 _ ln_X3_name_4) (hts _ lk_X3_name_1) (by decide +kernel) ⟨Nat.le_of_ble_eq_true rfl, Nat.le_of_ble_eq_true rfl⟩, (hts _ lk_X3_name_5), (hts _ lk_X3_name_6)⟩ hC hP hS (ow_q1_0) rfl rfl rfl hl.1 rfl (Nat.le_of_ble_eq_true rfl) dX3_name_20 ⟨Nat.zero_le _, Nat.zero_le _⟩) hS (fun H locs hP hS => ?_)
    exact W.lret (v := (fX0_nameOf st 0 (fX0_constantOf st 0 x2))) hx hb hr (fun t ht hW => ⟨⟨(fX0_nameOf st 0 (fX0_constantOf st 0 x2)), st, rfl, ⟨(by simp only [fX3_name, if_pos c_1]), rfl⟩, ow_Bi ht hP⟩, hS.F ht⟩) hS.2.2 dX3_name_23
  · by_cases c_2 : x1 = 1
    · refine og_cqS (q := ad 1 1) (og_runV (C := RX3) (T := TX3) (N := 14) (g := 0) (i := 0) (As := [.int x1]) (rest := []) ⟨hx, hb, hml, hown, hts⟩ (kX3_kindNumbered l D ca ad A st x1) (cwV 1 hts gX3_name_X3_kindNumbered rfl rfl rfl (by decide +kernel) ⟨Nat.le_of_ble_eq_true rfl, Nat.le_of_ble_eq_true rfl⟩) hC hP hS (ow_q0_0) rfl rfl rfl hl.1 rfl (Nat.le_of_ble_eq_true rfl) dX3_name_2 ⟨Nat.zero_le _, Nat.zero_le _⟩) hS (by simp only [fX3_kindNumbered, if_neg c_1, if_pos c_2]) (fun H locs hP hS => ?_)
      refine lv_astore_n (lv' := [(3, .ref (ad 1 1)), (0, .ref (ad 0 0)), (1, .int x1), (2, .int x2)]) hx hb dX3_name_5 rfl hl (by decide) rfl (fun ls hl => ?_)
      refine lv_aload_n hx hb dX3_name_6 rfl (lv_at hl 0 rfl) ?_
      refine lv_ifnonnull (tgt := 14) hx hb dX3_name_7 (by decide) ?_
      refine lv_aload_n hx hb dX3_name_14 rfl (lv_at hl 0 rfl) ?_
      refine lv_aload_n hx hb dX3_name_15 rfl (lv_at hl 0 rfl) ?_
      refine lv_iload_n hx hb dX3_name_16 rfl (lv_at hl 3 rfl) ?_
      refine og_ciP (og_runVN (C := RX0) (T := TX0) (N := 7) (g := 1) (i := 1) (As := [.int x2]) (rest := [.ref (ad 1 1)]) ⟨hx, hb, hml, hown, hts⟩ (kX0_constantOf l D ca ad A st 1 (by decide) x2) ⟨va_cnB 1 hts gX3_name_X0_constantOf_n94 rfl rfl rfl (hC.2.2.1 _ ln_X3_name_0) (hts _ lk_X3_name_1) (by decide +kernel) ⟨Nat.le_of_ble_eq_true rfl, Nat.le_of_ble_eq_true rfl⟩, (hts _ lk_X3_name_2), (hts _ lk_X3_name_3)⟩ hC hP hS (ow_q1_1) rfl rfl rfl hl.1 rfl (Nat.le_of_ble_eq_true rfl) dX3_name_17 ⟨Nat.zero_le _, Nat.zero_le _⟩) hS (fun H locs hP hS => ?_)
      refine og_clP (og_runVN (C := RX0) (T := TX0) (N := 7) (g := 1) (i := 1) (As := [.int (fX0_constantOf st 1 x2)]) (rest := []) ⟨hx, hb, hml, hown, hts⟩ (kX0_nameOf l D ca ad A st 1 (by decide) (fX0_constantOf st 1 x2)) ⟨va_cnB 1 hts gX3_name_X0_nameOf_n97 rfl rfl rfl (hC.2.2.1 _ ln_X3_name_4) (hts _ lk_X3_name_1) (by decide +kernel) ⟨Nat.le_of_ble_eq_true rfl, Nat.le_of_ble_eq_true rfl⟩, (hts _ lk_X3_name_5), (hts _ lk_X3_name_6)⟩ hC hP hS (ow_q1_1) rfl rfl rfl hl.1 rfl (Nat.le_of_ble_eq_true rfl) dX3_name_20 ⟨Nat.zero_le _, Nat.zero_le _⟩) hS (fun H locs hP hS => ?_)
      exact W.lret (v := (fX0_nameOf st 1 (fX0_constantOf st 1 x2))) hx hb hr (fun t ht hW => ⟨⟨(fX0_nameOf st 1 (fX0_constantOf st 1 x2)), st, rfl, ⟨(by simp only [fX3_name, if_neg c_1, if_pos c_2]), rfl⟩, ow_Bi ht hP⟩, hS.F ht⟩) hS.2.2 dX3_name_23
    · by_cases c_3 : x1 = 2
      · refine og_cqS (q := ad 1 2) (og_runV (C := RX3) (T := TX3) (N := 14) (g := 0) (i := 0) (As := [.int x1]) (rest := []) ⟨hx, hb, hml, hown, hts⟩ (kX3_kindNumbered l D ca ad A st x1) (cwV 1 hts gX3_name_X3_kindNumbered rfl rfl rfl (by decide +kernel) ⟨Nat.le_of_ble_eq_true rfl, Nat.le_of_ble_eq_true rfl⟩) hC hP hS (ow_q0_0) rfl rfl rfl hl.1 rfl (Nat.le_of_ble_eq_true rfl) dX3_name_2 ⟨Nat.zero_le _, Nat.zero_le _⟩) hS (by simp only [fX3_kindNumbered, if_neg c_1, if_neg c_2, if_pos c_3]) (fun H locs hP hS => ?_)
        refine lv_astore_n (lv' := [(3, .ref (ad 1 2)), (0, .ref (ad 0 0)), (1, .int x1), (2, .int x2)]) hx hb dX3_name_5 rfl hl (by decide) rfl (fun ls hl => ?_)
        refine lv_aload_n hx hb dX3_name_6 rfl (lv_at hl 0 rfl) ?_
        refine lv_ifnonnull (tgt := 14) hx hb dX3_name_7 (by decide) ?_
        refine lv_aload_n hx hb dX3_name_14 rfl (lv_at hl 0 rfl) ?_
        refine lv_aload_n hx hb dX3_name_15 rfl (lv_at hl 0 rfl) ?_
        refine lv_iload_n hx hb dX3_name_16 rfl (lv_at hl 3 rfl) ?_
        refine og_ciP (og_runVN (C := RX0) (T := TX0) (N := 7) (g := 1) (i := 2) (As := [.int x2]) (rest := [.ref (ad 1 2)]) ⟨hx, hb, hml, hown, hts⟩ (kX0_constantOf l D ca ad A st 2 (by decide) x2) ⟨va_cnB 1 hts gX3_name_X0_constantOf_n94 rfl rfl rfl (hC.2.2.1 _ ln_X3_name_0) (hts _ lk_X3_name_1) (by decide +kernel) ⟨Nat.le_of_ble_eq_true rfl, Nat.le_of_ble_eq_true rfl⟩, (hts _ lk_X3_name_2), (hts _ lk_X3_name_3)⟩ hC hP hS (ow_q1_2) rfl rfl rfl hl.1 rfl (Nat.le_of_ble_eq_true rfl) dX3_name_17 ⟨Nat.zero_le _, Nat.zero_le _⟩) hS (fun H locs hP hS => ?_)
        refine og_clP (og_runVN (C := RX0) (T := TX0) (N := 7) (g := 1) (i := 2) (As := [.int (fX0_constantOf st 2 x2)]) (rest := []) ⟨hx, hb, hml, hown, hts⟩ (kX0_nameOf l D ca ad A st 2 (by decide) (fX0_constantOf st 2 x2)) ⟨va_cnB 1 hts gX3_name_X0_nameOf_n97 rfl rfl rfl (hC.2.2.1 _ ln_X3_name_4) (hts _ lk_X3_name_1) (by decide +kernel) ⟨Nat.le_of_ble_eq_true rfl, Nat.le_of_ble_eq_true rfl⟩, (hts _ lk_X3_name_5), (hts _ lk_X3_name_6)⟩ hC hP hS (ow_q1_2) rfl rfl rfl hl.1 rfl (Nat.le_of_ble_eq_true rfl) dX3_name_20 ⟨Nat.zero_le _, Nat.zero_le _⟩) hS (fun H locs hP hS => ?_)
        exact W.lret (v := (fX0_nameOf st 2 (fX0_constantOf st 2 x2))) hx hb hr (fun t ht hW => ⟨⟨(fX0_nameOf st 2 (fX0_constantOf st 2 x2)), st, rfl, ⟨(by simp only [fX3_name, if_neg c_1, if_neg c_2, if_pos c_3]), rfl⟩, ow_Bi ht hP⟩, hS.F ht⟩) hS.2.2 dX3_name_23
      · refine og_cqN (og_runV (C := RX3) (T := TX3) (N := 14) (g := 0) (i := 0) (As := [.int x1]) (rest := []) ⟨hx, hb, hml, hown, hts⟩ (kX3_kindNumbered l D ca ad A st x1) (cwV 1 hts gX3_name_X3_kindNumbered rfl rfl rfl (by decide +kernel) ⟨Nat.le_of_ble_eq_true rfl, Nat.le_of_ble_eq_true rfl⟩) hC hP hS (ow_q0_0) rfl rfl rfl hl.1 rfl (Nat.le_of_ble_eq_true rfl) dX3_name_2 ⟨Nat.zero_le _, Nat.zero_le _⟩) hS (by simp only [fX3_kindNumbered, if_neg c_1, if_neg c_2, if_neg c_3]) (fun H locs hP hS => ?_)
        refine lv_astore_nN (lv' := [(3, .null), (0, .ref (ad 0 0)), (1, .int x1), (2, .int x2)]) hx hb dX3_name_5 rfl hl (by decide) rfl (fun ls hl => ?_)
        refine lv_aload_nN hx hb dX3_name_6 rfl (lv_at hl 0 rfl) ?_
        refine lv_ifnonnullN hx hb dX3_name_7 ?_
        refine lv_lconst (v := 0) hx hb dX3_name_10 rfl ?_
        refine lv_goto (tgt := 23) hx hb dX3_name_11 (by decide) ?_
        exact W.lret (v := 0) hx hb hr (fun t ht hW => ⟨⟨0, st, rfl, ⟨(by simp only [fX3_name, if_neg c_1, if_neg c_2, if_neg c_3]), rfl⟩, ow_Bi ht hP⟩, hS.F ht⟩) hS.2.2 dX3_name_23

theorem ln_X3_swap_0 : (.methodLinkNest RX3 101 yX0_has "RecordLabels" : Cond) ∈ ow_nest := by decide +kernel
theorem lk_X3_swap_1 : (.initialized RX0 : Cond) ∈ wsX3_swap := by decide +kernel
theorem lk_X3_swap_2 : (.instanceMethod yX0_has : Cond) ∈ wsX3_swap := by decide +kernel
theorem lk_X3_swap_3 : (.selects RX0 yX0_has yX0_has : Cond) ∈ wsX3_swap := by decide +kernel
theorem ln_X3_swap_4 : (.methodLinkNest RX3 105 yX0_exchange "RecordLabels" : Cond) ∈ ow_nest := by decide +kernel
theorem lk_X3_swap_5 : (.instanceMethod yX0_exchange : Cond) ∈ wsX3_swap := by decide +kernel
theorem lk_X3_swap_6 : (.selects RX0 yX0_exchange yX0_exchange : Cond) ∈ wsX3_swap := by decide +kernel
def fX3_swap (st : ow_St) (x1 x2 x3 : Int32) : Int32 × ow_St := (if x1 = 0 then (if (fX0_has st 0 x2) = 0 then ((-1), st) else (if (fX0_has st 0 x3) = 0 then ((-1), st) else (let st4 := (fX0_exchange st 0 x2 x3); (1, st4)))) else (if x1 = 1 then (if (fX0_has st 1 x2) = 0 then ((-1), st) else (if (fX0_has st 1 x3) = 0 then ((-1), st) else (let st8 := (fX0_exchange st 1 x2 x3); (1, st8)))) else (if x1 = 2 then (if (fX0_has st 2 x2) = 0 then ((-1), st) else (if (fX0_has st 2 x3) = 0 then ((-1), st) else (let st12 := (fX0_exchange st 2 x2 x3); (1, st12)))) else ((-1), st))))
set_option maxHeartbeats 4000000 in
set_option maxRecDepth 100000 in
theorem kX3_swap (l : Launch) (D : va_G) (ca : Nat → ClassId) (ad : ow_Ad) (A : Nat → Prop) (st : ow_St) (x1 : Int32) (x2 : Int32) (x3 : Int32) (hv : iv_con st) : Met l yX3_swap wsX3_swap ({ frames := 3, cells := 0, slots := 0, locals := 67 }) (va_Pc [.ref (ad 0 0), .int x1, .int x2, .int x3] (ow_W D ca ad A st)) (va_Qi (fun r st' => (r, st') = (fX3_swap st x1 x2 x3)) (ow_B D ca ad) A) 0 0 A := by
  refine Met.ofW (cc := cX3_swap) (maxL := 5) (ret := (some .int)) (by decide) rfl ?_
  intro p e s m args below meth c s₁ B hml hv
  obtain ⟨rfl, hP, hC⟩ := hv
  have hx := B.exec
  have hb := B.bytes
  have hr := B.returns
  have hts := atoms_spec (ws := wsX3_swap) B.pre
  have hown : s.vm.findClass RX3 = some m.cls := findClass_of_methodNamed B.named
  have hlocks := B.notSynchronized
  have hS : va_S A s.heap s.heap [] := va_S.rf
  have hl := lv_entry ([.ref (ad 0 0), .int x1, .int x2, .int x3]) (n := 5) (Nat.le_of_ble_eq_true rfl)
  rw [lg_entry_eq]
  generalize (lg_sl ([.ref (ad 0 0), .int x1, .int x2, .int x3]) ++ List.replicate (5 - (lg_sl ([.ref (ad 0 0), .int x1, .int x2, .int x3])).length) Slot.unset).toArray = ls at hl ⊢
  have hl : lv_has ls 5 [(0, .ref (ad 0 0)), (1, .int x1), (2, .int x2), (3, .int x3)] := hl
  refine lv_aload_n hx hb dX3_swap_0 rfl (lv_at hl 0 rfl) ?_
  refine lv_iload_n hx hb dX3_swap_1 rfl (lv_at hl 1 rfl) ?_
  by_cases c_1 : x1 = 0
  · refine og_cqS (q := ad 1 0) (og_runV (C := RX3) (T := TX3) (N := 14) (g := 0) (i := 0) (As := [.int x1]) (rest := []) ⟨hx, hb, hml, hown, hts⟩ (kX3_kindNumbered l D ca ad A st x1) (cwV 1 hts gX3_swap_X3_kindNumbered rfl rfl rfl (by decide +kernel) ⟨Nat.le_of_ble_eq_true rfl, Nat.le_of_ble_eq_true rfl⟩) hC hP hS (ow_q0_0) rfl rfl rfl hl.1 rfl (Nat.le_of_ble_eq_true rfl) dX3_swap_2 ⟨Nat.zero_le _, Nat.zero_le _⟩) hS (by simp only [fX3_kindNumbered, if_pos c_1]) (fun H locs hP hS => ?_)
    refine lv_astore (lv' := [(4, .ref (ad 1 0)), (0, .ref (ad 0 0)), (1, .int x1), (2, .int x2), (3, .int x3)]) hx hb dX3_swap_5 hl (by decide) rfl (fun ls hl => ?_)
    refine lv_aload hx hb dX3_swap_7 (lv_at hl 0 rfl) ?_
    refine lv_ifnull hx hb dX3_swap_9 ?_
    refine lv_aload hx hb dX3_swap_12 (lv_at hl 0 rfl) ?_
    refine lv_iload_n hx hb dX3_swap_14 rfl (lv_at hl 3 rfl) ?_
    refine og_ciP (og_runVN (C := RX0) (T := TX0) (N := 7) (g := 1) (i := 0) (As := [.int x2]) (rest := []) ⟨hx, hb, hml, hown, hts⟩ (kX0_has l D ca ad A st 0 (by decide) x2) ⟨va_cnB 1 hts gX3_swap_X0_has_n101 rfl rfl rfl (hC.2.2.1 _ ln_X3_swap_0) (hts _ lk_X3_swap_1) (by decide +kernel) ⟨Nat.le_of_ble_eq_true rfl, Nat.le_of_ble_eq_true rfl⟩, (hts _ lk_X3_swap_2), (hts _ lk_X3_swap_3)⟩ hC hP hS (ow_q1_0) rfl rfl rfl hl.1 rfl (Nat.le_of_ble_eq_true rfl) dX3_swap_15 ⟨Nat.zero_le _, Nat.zero_le _⟩) hS (fun H locs hP hS => ?_)
    refine lv_if_eq (tgt := 30) hx hb dX3_swap_18 (by decide) (fun c_2 => ?_) (fun c_2 => ?_)
    · refine lv_iconst (v := (-1)) hx hb dX3_swap_30 (by decide) ?_
      exact W.iret (v := (-1)) hx hb hr (fun t ht hW => ⟨⟨(-1), st, rfl, (by simp only [fX3_swap, if_pos c_1, if_pos c_2]), ow_Bi ht hP⟩, hS.F ht⟩) hS.2.2 dX3_swap_31
    · refine lv_aload hx hb dX3_swap_21 (lv_at hl 0 rfl) ?_
      refine lv_iload_n hx hb dX3_swap_23 rfl (lv_at hl 4 rfl) ?_
      refine og_ciP (og_runVN (C := RX0) (T := TX0) (N := 7) (g := 1) (i := 0) (As := [.int x3]) (rest := []) ⟨hx, hb, hml, hown, hts⟩ (kX0_has l D ca ad A st 0 (by decide) x3) ⟨va_cnB 1 hts gX3_swap_X0_has_n101 rfl rfl rfl (hC.2.2.1 _ ln_X3_swap_0) (hts _ lk_X3_swap_1) (by decide +kernel) ⟨Nat.le_of_ble_eq_true rfl, Nat.le_of_ble_eq_true rfl⟩, (hts _ lk_X3_swap_2), (hts _ lk_X3_swap_3)⟩ hC hP hS (ow_q1_0) rfl rfl rfl hl.1 rfl (Nat.le_of_ble_eq_true rfl) dX3_swap_24 ⟨Nat.zero_le _, Nat.zero_le _⟩) hS (fun H locs hP hS => ?_)
      refine lv_if_ne (tgt := 32) hx hb dX3_swap_27 (by decide) (fun c_3 => ?_) (fun c_3 => ?_)
      · refine lv_aload hx hb dX3_swap_32 (lv_at hl 0 rfl) ?_
        refine lv_iload_n hx hb dX3_swap_34 rfl (lv_at hl 3 rfl) ?_
        refine lv_iload_n hx hb dX3_swap_35 rfl (lv_at hl 4 rfl) ?_
        refine og_cvW (og_runVN (C := RX0) (T := TX0) (N := 7) (g := 1) (i := 0) (As := [.int x2, .int x3]) (rest := []) ⟨hx, hb, hml, hown, hts⟩ (kX0_exchange l D ca ad A st 0 (by decide) x2 x3) ⟨va_cnB 2 hts gX3_swap_X0_exchange_n105 rfl rfl rfl (hC.2.2.1 _ ln_X3_swap_4) (hts _ lk_X3_swap_1) (by decide +kernel) ⟨Nat.le_of_ble_eq_true rfl, Nat.le_of_ble_eq_true rfl⟩, (hts _ lk_X3_swap_5), (hts _ lk_X3_swap_6)⟩ hC hP hS (ow_q1_0) rfl rfl rfl hl.1 rfl (Nat.le_of_ble_eq_true rfl) dX3_swap_36 ⟨Nat.zero_le _, Nat.zero_le _⟩) hS (fun H locs hP hS => ?_)
        obtain ⟨st4, e4⟩ : ∃ z, z = (fX0_exchange st 0 x2 x3) := ⟨_, rfl⟩
        rw [← e4] at hP
        refine lv_iconst (v := 1) hx hb dX3_swap_39 (by decide) ?_
        exact W.iret (v := 1) hx hb hr (fun t ht hW => ⟨⟨1, st4, rfl, (by subst e4; simp only [fX3_swap, if_pos c_1, if_neg c_2, if_neg c_3]), ow_Bi ht hP⟩, hS.F ht⟩) hS.2.2 dX3_swap_40
      · refine lv_iconst (v := (-1)) hx hb dX3_swap_30 (by decide) ?_
        exact W.iret (v := (-1)) hx hb hr (fun t ht hW => ⟨⟨(-1), st, rfl, (by simp only [fX3_swap, if_pos c_1, if_neg c_2, if_pos c_3]), ow_Bi ht hP⟩, hS.F ht⟩) hS.2.2 dX3_swap_31
  · by_cases c_5 : x1 = 1
    · refine og_cqS (q := ad 1 1) (og_runV (C := RX3) (T := TX3) (N := 14) (g := 0) (i := 0) (As := [.int x1]) (rest := []) ⟨hx, hb, hml, hown, hts⟩ (kX3_kindNumbered l D ca ad A st x1) (cwV 1 hts gX3_swap_X3_kindNumbered rfl rfl rfl (by decide +kernel) ⟨Nat.le_of_ble_eq_true rfl, Nat.le_of_ble_eq_true rfl⟩) hC hP hS (ow_q0_0) rfl rfl rfl hl.1 rfl (Nat.le_of_ble_eq_true rfl) dX3_swap_2 ⟨Nat.zero_le _, Nat.zero_le _⟩) hS (by simp only [fX3_kindNumbered, if_neg c_1, if_pos c_5]) (fun H locs hP hS => ?_)
      refine lv_astore (lv' := [(4, .ref (ad 1 1)), (0, .ref (ad 0 0)), (1, .int x1), (2, .int x2), (3, .int x3)]) hx hb dX3_swap_5 hl (by decide) rfl (fun ls hl => ?_)
      refine lv_aload hx hb dX3_swap_7 (lv_at hl 0 rfl) ?_
      refine lv_ifnull hx hb dX3_swap_9 ?_
      refine lv_aload hx hb dX3_swap_12 (lv_at hl 0 rfl) ?_
      refine lv_iload_n hx hb dX3_swap_14 rfl (lv_at hl 3 rfl) ?_
      refine og_ciP (og_runVN (C := RX0) (T := TX0) (N := 7) (g := 1) (i := 1) (As := [.int x2]) (rest := []) ⟨hx, hb, hml, hown, hts⟩ (kX0_has l D ca ad A st 1 (by decide) x2) ⟨va_cnB 1 hts gX3_swap_X0_has_n101 rfl rfl rfl (hC.2.2.1 _ ln_X3_swap_0) (hts _ lk_X3_swap_1) (by decide +kernel) ⟨Nat.le_of_ble_eq_true rfl, Nat.le_of_ble_eq_true rfl⟩, (hts _ lk_X3_swap_2), (hts _ lk_X3_swap_3)⟩ hC hP hS (ow_q1_1) rfl rfl rfl hl.1 rfl (Nat.le_of_ble_eq_true rfl) dX3_swap_15 ⟨Nat.zero_le _, Nat.zero_le _⟩) hS (fun H locs hP hS => ?_)
      refine lv_if_eq (tgt := 30) hx hb dX3_swap_18 (by decide) (fun c_6 => ?_) (fun c_6 => ?_)
      · refine lv_iconst (v := (-1)) hx hb dX3_swap_30 (by decide) ?_
        exact W.iret (v := (-1)) hx hb hr (fun t ht hW => ⟨⟨(-1), st, rfl, (by simp only [fX3_swap, if_neg c_1, if_pos c_5, if_pos c_6]), ow_Bi ht hP⟩, hS.F ht⟩) hS.2.2 dX3_swap_31
      · refine lv_aload hx hb dX3_swap_21 (lv_at hl 0 rfl) ?_
        refine lv_iload_n hx hb dX3_swap_23 rfl (lv_at hl 4 rfl) ?_
        refine og_ciP (og_runVN (C := RX0) (T := TX0) (N := 7) (g := 1) (i := 1) (As := [.int x3]) (rest := []) ⟨hx, hb, hml, hown, hts⟩ (kX0_has l D ca ad A st 1 (by decide) x3) ⟨va_cnB 1 hts gX3_swap_X0_has_n101 rfl rfl rfl (hC.2.2.1 _ ln_X3_swap_0) (hts _ lk_X3_swap_1) (by decide +kernel) ⟨Nat.le_of_ble_eq_true rfl, Nat.le_of_ble_eq_true rfl⟩, (hts _ lk_X3_swap_2), (hts _ lk_X3_swap_3)⟩ hC hP hS (ow_q1_1) rfl rfl rfl hl.1 rfl (Nat.le_of_ble_eq_true rfl) dX3_swap_24 ⟨Nat.zero_le _, Nat.zero_le _⟩) hS (fun H locs hP hS => ?_)
        refine lv_if_ne (tgt := 32) hx hb dX3_swap_27 (by decide) (fun c_7 => ?_) (fun c_7 => ?_)
        · refine lv_aload hx hb dX3_swap_32 (lv_at hl 0 rfl) ?_
          refine lv_iload_n hx hb dX3_swap_34 rfl (lv_at hl 3 rfl) ?_
          refine lv_iload_n hx hb dX3_swap_35 rfl (lv_at hl 4 rfl) ?_
          refine og_cvW (og_runVN (C := RX0) (T := TX0) (N := 7) (g := 1) (i := 1) (As := [.int x2, .int x3]) (rest := []) ⟨hx, hb, hml, hown, hts⟩ (kX0_exchange l D ca ad A st 1 (by decide) x2 x3) ⟨va_cnB 2 hts gX3_swap_X0_exchange_n105 rfl rfl rfl (hC.2.2.1 _ ln_X3_swap_4) (hts _ lk_X3_swap_1) (by decide +kernel) ⟨Nat.le_of_ble_eq_true rfl, Nat.le_of_ble_eq_true rfl⟩, (hts _ lk_X3_swap_5), (hts _ lk_X3_swap_6)⟩ hC hP hS (ow_q1_1) rfl rfl rfl hl.1 rfl (Nat.le_of_ble_eq_true rfl) dX3_swap_36 ⟨Nat.zero_le _, Nat.zero_le _⟩) hS (fun H locs hP hS => ?_)
          obtain ⟨st8, e8⟩ : ∃ z, z = (fX0_exchange st 1 x2 x3) := ⟨_, rfl⟩
          rw [← e8] at hP
          refine lv_iconst (v := 1) hx hb dX3_swap_39 (by decide) ?_
          exact W.iret (v := 1) hx hb hr (fun t ht hW => ⟨⟨1, st8, rfl, (by subst e8; simp only [fX3_swap, if_neg c_1, if_pos c_5, if_neg c_6, if_neg c_7]), ow_Bi ht hP⟩, hS.F ht⟩) hS.2.2 dX3_swap_40
        · refine lv_iconst (v := (-1)) hx hb dX3_swap_30 (by decide) ?_
          exact W.iret (v := (-1)) hx hb hr (fun t ht hW => ⟨⟨(-1), st, rfl, (by simp only [fX3_swap, if_neg c_1, if_pos c_5, if_neg c_6, if_pos c_7]), ow_Bi ht hP⟩, hS.F ht⟩) hS.2.2 dX3_swap_31
    · by_cases c_9 : x1 = 2
      · refine og_cqS (q := ad 1 2) (og_runV (C := RX3) (T := TX3) (N := 14) (g := 0) (i := 0) (As := [.int x1]) (rest := []) ⟨hx, hb, hml, hown, hts⟩ (kX3_kindNumbered l D ca ad A st x1) (cwV 1 hts gX3_swap_X3_kindNumbered rfl rfl rfl (by decide +kernel) ⟨Nat.le_of_ble_eq_true rfl, Nat.le_of_ble_eq_true rfl⟩) hC hP hS (ow_q0_0) rfl rfl rfl hl.1 rfl (Nat.le_of_ble_eq_true rfl) dX3_swap_2 ⟨Nat.zero_le _, Nat.zero_le _⟩) hS (by simp only [fX3_kindNumbered, if_neg c_1, if_neg c_5, if_pos c_9]) (fun H locs hP hS => ?_)
        refine lv_astore (lv' := [(4, .ref (ad 1 2)), (0, .ref (ad 0 0)), (1, .int x1), (2, .int x2), (3, .int x3)]) hx hb dX3_swap_5 hl (by decide) rfl (fun ls hl => ?_)
        refine lv_aload hx hb dX3_swap_7 (lv_at hl 0 rfl) ?_
        refine lv_ifnull hx hb dX3_swap_9 ?_
        refine lv_aload hx hb dX3_swap_12 (lv_at hl 0 rfl) ?_
        refine lv_iload_n hx hb dX3_swap_14 rfl (lv_at hl 3 rfl) ?_
        refine og_ciP (og_runVN (C := RX0) (T := TX0) (N := 7) (g := 1) (i := 2) (As := [.int x2]) (rest := []) ⟨hx, hb, hml, hown, hts⟩ (kX0_has l D ca ad A st 2 (by decide) x2) ⟨va_cnB 1 hts gX3_swap_X0_has_n101 rfl rfl rfl (hC.2.2.1 _ ln_X3_swap_0) (hts _ lk_X3_swap_1) (by decide +kernel) ⟨Nat.le_of_ble_eq_true rfl, Nat.le_of_ble_eq_true rfl⟩, (hts _ lk_X3_swap_2), (hts _ lk_X3_swap_3)⟩ hC hP hS (ow_q1_2) rfl rfl rfl hl.1 rfl (Nat.le_of_ble_eq_true rfl) dX3_swap_15 ⟨Nat.zero_le _, Nat.zero_le _⟩) hS (fun H locs hP hS => ?_)
        refine lv_if_eq (tgt := 30) hx hb dX3_swap_18 (by decide) (fun c_10 => ?_) (fun c_10 => ?_)
        · refine lv_iconst (v := (-1)) hx hb dX3_swap_30 (by decide) ?_
          exact W.iret (v := (-1)) hx hb hr (fun t ht hW => ⟨⟨(-1), st, rfl, (by simp only [fX3_swap, if_neg c_1, if_neg c_5, if_pos c_9, if_pos c_10]), ow_Bi ht hP⟩, hS.F ht⟩) hS.2.2 dX3_swap_31
        · refine lv_aload hx hb dX3_swap_21 (lv_at hl 0 rfl) ?_
          refine lv_iload_n hx hb dX3_swap_23 rfl (lv_at hl 4 rfl) ?_
          refine og_ciP (og_runVN (C := RX0) (T := TX0) (N := 7) (g := 1) (i := 2) (As := [.int x3]) (rest := []) ⟨hx, hb, hml, hown, hts⟩ (kX0_has l D ca ad A st 2 (by decide) x3) ⟨va_cnB 1 hts gX3_swap_X0_has_n101 rfl rfl rfl (hC.2.2.1 _ ln_X3_swap_0) (hts _ lk_X3_swap_1) (by decide +kernel) ⟨Nat.le_of_ble_eq_true rfl, Nat.le_of_ble_eq_true rfl⟩, (hts _ lk_X3_swap_2), (hts _ lk_X3_swap_3)⟩ hC hP hS (ow_q1_2) rfl rfl rfl hl.1 rfl (Nat.le_of_ble_eq_true rfl) dX3_swap_24 ⟨Nat.zero_le _, Nat.zero_le _⟩) hS (fun H locs hP hS => ?_)
          refine lv_if_ne (tgt := 32) hx hb dX3_swap_27 (by decide) (fun c_11 => ?_) (fun c_11 => ?_)
          · refine lv_aload hx hb dX3_swap_32 (lv_at hl 0 rfl) ?_
            refine lv_iload_n hx hb dX3_swap_34 rfl (lv_at hl 3 rfl) ?_
            refine lv_iload_n hx hb dX3_swap_35 rfl (lv_at hl 4 rfl) ?_
            refine og_cvW (og_runVN (C := RX0) (T := TX0) (N := 7) (g := 1) (i := 2) (As := [.int x2, .int x3]) (rest := []) ⟨hx, hb, hml, hown, hts⟩ (kX0_exchange l D ca ad A st 2 (by decide) x2 x3) ⟨va_cnB 2 hts gX3_swap_X0_exchange_n105 rfl rfl rfl (hC.2.2.1 _ ln_X3_swap_4) (hts _ lk_X3_swap_1) (by decide +kernel) ⟨Nat.le_of_ble_eq_true rfl, Nat.le_of_ble_eq_true rfl⟩, (hts _ lk_X3_swap_5), (hts _ lk_X3_swap_6)⟩ hC hP hS (ow_q1_2) rfl rfl rfl hl.1 rfl (Nat.le_of_ble_eq_true rfl) dX3_swap_36 ⟨Nat.zero_le _, Nat.zero_le _⟩) hS (fun H locs hP hS => ?_)
            obtain ⟨st12, e12⟩ : ∃ z, z = (fX0_exchange st 2 x2 x3) := ⟨_, rfl⟩
            rw [← e12] at hP
            refine lv_iconst (v := 1) hx hb dX3_swap_39 (by decide) ?_
            exact W.iret (v := 1) hx hb hr (fun t ht hW => ⟨⟨1, st12, rfl, (by subst e12; simp only [fX3_swap, if_neg c_1, if_neg c_5, if_pos c_9, if_neg c_10, if_neg c_11]), ow_Bi ht hP⟩, hS.F ht⟩) hS.2.2 dX3_swap_40
          · refine lv_iconst (v := (-1)) hx hb dX3_swap_30 (by decide) ?_
            exact W.iret (v := (-1)) hx hb hr (fun t ht hW => ⟨⟨(-1), st, rfl, (by simp only [fX3_swap, if_neg c_1, if_neg c_5, if_pos c_9, if_neg c_10, if_pos c_11]), ow_Bi ht hP⟩, hS.F ht⟩) hS.2.2 dX3_swap_31
      · refine og_cqN (og_runV (C := RX3) (T := TX3) (N := 14) (g := 0) (i := 0) (As := [.int x1]) (rest := []) ⟨hx, hb, hml, hown, hts⟩ (kX3_kindNumbered l D ca ad A st x1) (cwV 1 hts gX3_swap_X3_kindNumbered rfl rfl rfl (by decide +kernel) ⟨Nat.le_of_ble_eq_true rfl, Nat.le_of_ble_eq_true rfl⟩) hC hP hS (ow_q0_0) rfl rfl rfl hl.1 rfl (Nat.le_of_ble_eq_true rfl) dX3_swap_2 ⟨Nat.zero_le _, Nat.zero_le _⟩) hS (by simp only [fX3_kindNumbered, if_neg c_1, if_neg c_5, if_neg c_9]) (fun H locs hP hS => ?_)
        refine lv_astoreN (lv' := [(4, .null), (0, .ref (ad 0 0)), (1, .int x1), (2, .int x2), (3, .int x3)]) hx hb dX3_swap_5 hl (by decide) rfl (fun ls hl => ?_)
        refine lv_aloadN hx hb dX3_swap_7 (lv_at hl 0 rfl) ?_
        refine lv_ifnullN (tgt := 30) hx hb dX3_swap_9 (by decide) ?_
        refine lv_iconst (v := (-1)) hx hb dX3_swap_30 (by decide) ?_
        exact W.iret (v := (-1)) hx hb hr (fun t ht hW => ⟨⟨(-1), st, rfl, (by simp only [fX3_swap, if_neg c_1, if_neg c_5, if_neg c_9]), ow_Bi ht hP⟩, hS.F ht⟩) hS.2.2 dX3_swap_31

theorem ln_X3_rule_0 : (.methodLinkNest RX3 101 yX0_has "RecordLabels" : Cond) ∈ ow_nest := by decide +kernel
theorem lk_X3_rule_1 : (.initialized RX0 : Cond) ∈ wsX3_rule := by decide +kernel
theorem lk_X3_rule_2 : (.instanceMethod yX0_has : Cond) ∈ wsX3_rule := by decide +kernel
theorem lk_X3_rule_3 : (.selects RX0 yX0_has yX0_has : Cond) ∈ wsX3_rule := by decide +kernel
theorem ln_X3_rule_4 : (.methodLinkNest RX3 94 yX0_constantOf "RecordLabels" : Cond) ∈ ow_nest := by decide +kernel
theorem lk_X3_rule_5 : (.instanceMethod yX0_constantOf : Cond) ∈ wsX3_rule := by decide +kernel
theorem lk_X3_rule_6 : (.selects RX0 yX0_constantOf yX0_constantOf : Cond) ∈ wsX3_rule := by decide +kernel
theorem lk_X3_rule_7 : (.fieldLink RX3 52 "RecordLabels" "lastResult" "J" : Cond) ∈ wsX3_rule := by decide +kernel
theorem li_X3_rule_X3 : ∀ w ∈ u_ws RX3 TX3 14, w ∈ wsX3_rule := by decide +kernel
def fX3_rule (st : ow_St) (x1 x2 : Int32) (x3 : Int64) : Int32 × ow_St := (if x1 = 0 then (if (fX0_has st 0 x2) = 0 then ((-1), st) else (let st3 := (fX3_askRule_0 st (fX0_constantOf st 0 x2) x3).2; (if (fX3_askRule_0 st (fX0_constantOf st 0 x2) x3).1 = 1 then (let st5 := (ow_sl st3 0 (fX3_valueOf_0 st3 (fX0_constantOf st 0 x2) x3)); ((fX3_askRule_0 st (fX0_constantOf st 0 x2) x3).1, st5)) else ((fX3_askRule_0 st (fX0_constantOf st 0 x2) x3).1, st3)))) else (if x1 = 1 then (if (fX0_has st 1 x2) = 0 then ((-1), st) else (let st8 := (fX3_askRule_1 st (fX0_constantOf st 1 x2) x3).2; (if (fX3_askRule_1 st (fX0_constantOf st 1 x2) x3).1 = 1 then (let st10 := (ow_sl st8 0 (fX3_valueOf_1 st8 (fX0_constantOf st 1 x2) x3)); ((fX3_askRule_1 st (fX0_constantOf st 1 x2) x3).1, st10)) else ((fX3_askRule_1 st (fX0_constantOf st 1 x2) x3).1, st8)))) else (if x1 = 2 then (if (fX0_has st 2 x2) = 0 then ((-1), st) else (let st13 := (fX3_askRule_2 st (fX0_constantOf st 2 x2) x3).2; (if (fX3_askRule_2 st (fX0_constantOf st 2 x2) x3).1 = 1 then (let st15 := (ow_sl st13 0 (fX3_valueOf_2 st13 (fX0_constantOf st 2 x2) x3)); ((fX3_askRule_2 st (fX0_constantOf st 2 x2) x3).1, st15)) else ((fX3_askRule_2 st (fX0_constantOf st 2 x2) x3).1, st13)))) else ((-1), st))))
set_option maxHeartbeats 4000000 in
set_option maxRecDepth 100000 in
theorem kX3_rule (l : Launch) (D : va_G) (ca : Nat → ClassId) (ad : ow_Ad) (A : Nat → Prop) (st : ow_St) (x1 : Int32) (x2 : Int32) (x3 : Int64) : Met l yX3_rule wsX3_rule ({ frames := 2, cells := 0, slots := 0, locals := 48 }) (va_Pc [.ref (ad 0 0), .int x1, .int x2, .long x3] (ow_W D ca ad A st)) (va_Qi (fun r st' => (r, st') = (fX3_rule st x1 x2 x3)) (ow_B D ca ad) A) 0 0 A := by
  refine Met.ofW (cc := cX3_rule) (maxL := 8) (ret := (some .int)) (by decide) rfl ?_
  intro p e s m args below meth c s₁ B hml hv
  obtain ⟨rfl, hP, hC⟩ := hv
  have hx := B.exec
  have hb := B.bytes
  have hr := B.returns
  have hts := atoms_spec (ws := wsX3_rule) B.pre
  have hown : s.vm.findClass RX3 = some m.cls := findClass_of_methodNamed B.named
  have hlocks := B.notSynchronized
  have hS : va_S A s.heap s.heap [] := va_S.rf
  have hl := lv_entry ([.ref (ad 0 0), .int x1, .int x2, .long x3]) (n := 8) (Nat.le_of_ble_eq_true rfl)
  rw [lg_entry_eq]
  generalize (lg_sl ([.ref (ad 0 0), .int x1, .int x2, .long x3]) ++ List.replicate (8 - (lg_sl ([.ref (ad 0 0), .int x1, .int x2, .long x3])).length) Slot.unset).toArray = ls at hl ⊢
  have hl : lv_has ls 8 [(0, .ref (ad 0 0)), (1, .int x1), (2, .int x2), (3, .long x3)] := hl
  refine lv_aload_n hx hb dX3_rule_0 rfl (lv_at hl 0 rfl) ?_
  refine lv_iload_n hx hb dX3_rule_1 rfl (lv_at hl 1 rfl) ?_
  by_cases c_1 : x1 = 0
  · refine og_cqS (q := ad 1 0) (og_runV (C := RX3) (T := TX3) (N := 14) (g := 0) (i := 0) (As := [.int x1]) (rest := []) ⟨hx, hb, hml, hown, hts⟩ (kX3_kindNumbered l D ca ad A st x1) (cwV 1 hts gX3_rule_X3_kindNumbered rfl rfl rfl (by decide +kernel) ⟨Nat.le_of_ble_eq_true rfl, Nat.le_of_ble_eq_true rfl⟩) hC hP hS (ow_q0_0) rfl rfl rfl hl.1 rfl (Nat.le_of_ble_eq_true rfl) dX3_rule_2 ⟨Nat.zero_le _, Nat.zero_le _⟩) hS (by simp only [fX3_kindNumbered, if_pos c_1]) (fun H locs hP hS => ?_)
    refine lv_astore (lv' := [(5, .ref (ad 1 0)), (0, .ref (ad 0 0)), (1, .int x1), (2, .int x2), (3, .long x3)]) hx hb dX3_rule_5 hl (by decide) rfl (fun ls hl => ?_)
    refine lv_aload hx hb dX3_rule_7 (lv_at hl 0 rfl) ?_
    refine lv_ifnull hx hb dX3_rule_9 ?_
    refine lv_aload hx hb dX3_rule_12 (lv_at hl 0 rfl) ?_
    refine lv_iload_n hx hb dX3_rule_14 rfl (lv_at hl 3 rfl) ?_
    refine og_ciP (og_runVN (C := RX0) (T := TX0) (N := 7) (g := 1) (i := 0) (As := [.int x2]) (rest := []) ⟨hx, hb, hml, hown, hts⟩ (kX0_has l D ca ad A st 0 (by decide) x2) ⟨va_cnB 1 hts gX3_rule_X0_has_n101 rfl rfl rfl (hC.2.2.1 _ ln_X3_rule_0) (hts _ lk_X3_rule_1) (by decide +kernel) ⟨Nat.le_of_ble_eq_true rfl, Nat.le_of_ble_eq_true rfl⟩, (hts _ lk_X3_rule_2), (hts _ lk_X3_rule_3)⟩ hC hP hS (ow_q1_0) rfl rfl rfl hl.1 rfl (Nat.le_of_ble_eq_true rfl) dX3_rule_15 ⟨Nat.zero_le _, Nat.zero_le _⟩) hS (fun H locs hP hS => ?_)
    refine lv_if_ne (tgt := 23) hx hb dX3_rule_18 (by decide) (fun c_2 => ?_) (fun c_2 => ?_)
    · refine lv_aload hx hb dX3_rule_23 (lv_at hl 0 rfl) ?_
      refine lv_iload_n hx hb dX3_rule_25 rfl (lv_at hl 3 rfl) ?_
      refine og_ciP (og_runVN (C := RX0) (T := TX0) (N := 7) (g := 1) (i := 0) (As := [.int x2]) (rest := []) ⟨hx, hb, hml, hown, hts⟩ (kX0_constantOf l D ca ad A st 0 (by decide) x2) ⟨va_cnB 1 hts gX3_rule_X0_constantOf_n94 rfl rfl rfl (hC.2.2.1 _ ln_X3_rule_4) (hts _ lk_X3_rule_1) (by decide +kernel) ⟨Nat.le_of_ble_eq_true rfl, Nat.le_of_ble_eq_true rfl⟩, (hts _ lk_X3_rule_5), (hts _ lk_X3_rule_6)⟩ hC hP hS (ow_q1_0) rfl rfl rfl hl.1 rfl (Nat.le_of_ble_eq_true rfl) dX3_rule_26 ⟨Nat.zero_le _, Nat.zero_le _⟩) hS (fun H locs hP hS => ?_)
      refine lv_istore (lv' := [(6, .int (fX0_constantOf st 0 x2)), (5, .ref (ad 1 0)), (0, .ref (ad 0 0)), (1, .int x1), (2, .int x2), (3, .long x3)]) hx hb dX3_rule_29 hl (by decide) rfl (fun ls hl => ?_)
      refine lv_aload_n hx hb dX3_rule_31 rfl (lv_at hl 2 rfl) ?_
      refine lv_aload hx hb dX3_rule_32 (lv_at hl 1 rfl) ?_
      refine lv_iload hx hb dX3_rule_34 (lv_at hl 0 rfl) ?_
      refine lv_lload_n hx hb dX3_rule_36 rfl (lv_at hl 5 rfl) ?_
      refine og_ciW (og_runV (C := RX3) (T := TX3) (N := 14) (g := 0) (i := 0) (As := [.ref (ad 1 0), .int (fX0_constantOf st 0 x2), .long x3]) (rest := []) ⟨hx, hb, hml, hown, hts⟩ (kX3_askRule_0 l D ca ad A st (fX0_constantOf st 0 x2) x3) (cwV 3 hts gX3_rule_X3_askRule rfl rfl rfl (by decide +kernel) ⟨Nat.le_of_ble_eq_true rfl, Nat.le_of_ble_eq_true rfl⟩) hC hP hS (ow_q0_0) rfl rfl rfl hl.1 rfl (Nat.le_of_ble_eq_true rfl) dX3_rule_37 ⟨Nat.zero_le _, Nat.zero_le _⟩) hS (fun H locs hP hS => ?_)
      obtain ⟨st3, e3⟩ : ∃ z, z = (fX3_askRule_0 st (fX0_constantOf st 0 x2) x3).2 := ⟨_, rfl⟩
      rw [← e3] at hP
      refine lv_istore (lv' := [(7, .int ((fX3_askRule_0 st (fX0_constantOf st 0 x2) x3).1)), (6, .int (fX0_constantOf st 0 x2)), (5, .ref (ad 1 0)), (0, .ref (ad 0 0)), (1, .int x1), (2, .int x2), (3, .long x3)]) hx hb dX3_rule_40 hl (by decide) rfl (fun ls hl => ?_)
      refine lv_iload hx hb dX3_rule_42 (lv_at hl 0 rfl) ?_
      refine lv_iconst (v := 1) hx hb dX3_rule_44 (by decide) ?_
      refine lv_icmp_ne (tgt := 60) hx hb dX3_rule_45 (by decide) (fun c_4 => ?_) (fun c_4 => ?_)
      · refine lv_iload hx hb dX3_rule_60 (lv_at hl 0 rfl) ?_
        exact W.iret (v := (fX3_askRule_0 st (fX0_constantOf st 0 x2) x3).1) hx hb hr (fun t ht hW => ⟨⟨(fX3_askRule_0 st (fX0_constantOf st 0 x2) x3).1, st3, rfl, (by subst e3; simp only [fX3_rule, if_pos c_1, if_neg c_2, if_neg c_4]), ow_Bi ht hP⟩, hS.F ht⟩) hS.2.2 dX3_rule_62
      · refine lv_aload_n hx hb dX3_rule_48 rfl (lv_at hl 3 rfl) ?_
        refine lv_aload hx hb dX3_rule_49 (lv_at hl 2 rfl) ?_
        refine lv_iload hx hb dX3_rule_51 (lv_at hl 1 rfl) ?_
        refine lv_lload_n hx hb dX3_rule_53 rfl (lv_at hl 6 rfl) ?_
        refine og_clP (og_runS (As := [.ref (ad 1 0), .int (fX0_constantOf st 0 x2), .long x3]) (rest := [.ref (ad 0 0)]) ⟨hx, hb, hml, hown, hts⟩ (kX3_valueOf_0 l D ca ad A st3 (fX0_constantOf st 0 x2) x3) (va_cwS 3 hts gX3_rule_X3_valueOf rfl rfl rfl (by decide +kernel) ⟨Nat.le_of_ble_eq_true rfl, Nat.le_of_ble_eq_true rfl⟩) hC hP hS rfl hl.1 rfl (Nat.le_of_ble_eq_true rfl) dX3_rule_54 ⟨Nat.zero_le _, Nat.zero_le _⟩) hS (fun H locs hP hS => ?_)
        refine og_put (C := RX3) (T := TX3) (N := 14) (g := 0) (i := 0) (v := .long (fX3_valueOf_0 st3 (fX0_constantOf st 0 x2) x3)) (ty := .long) hx hb hts li_X3_rule_X3 tyX3 tyX3_ok nmX3 hown hC hP hS (ow_q0_0) rfl rfl 6 (by decide) (hts _ lk_X3_rule_7) rfl rfl (by decide +kernel) rfl rfl (Nat.le_of_ble_eq_true rfl) (we_0_l st3 (fX3_valueOf_0 st3 (fX0_constantOf st 0 x2) x3)) dX3_rule_57 (fun H locs hP hS => ?_)
        obtain ⟨st5, e5⟩ : ∃ z, z = (ow_sl st3 0 (fX3_valueOf_0 st3 (fX0_constantOf st 0 x2) x3)) := ⟨_, rfl⟩
        rw [← e5] at hP
        refine lv_iload hx hb dX3_rule_60 (lv_at hl 0 rfl) ?_
        exact W.iret (v := (fX3_askRule_0 st (fX0_constantOf st 0 x2) x3).1) hx hb hr (fun t ht hW => ⟨⟨(fX3_askRule_0 st (fX0_constantOf st 0 x2) x3).1, st5, rfl, (by subst e5; subst e3; simp only [fX3_rule, if_pos c_1, if_neg c_2, if_pos c_4]), ow_Bi ht hP⟩, hS.F ht⟩) hS.2.2 dX3_rule_62
    · refine lv_iconst (v := (-1)) hx hb dX3_rule_21 (by decide) ?_
      exact W.iret (v := (-1)) hx hb hr (fun t ht hW => ⟨⟨(-1), st, rfl, (by simp only [fX3_rule, if_pos c_1, if_pos c_2]), ow_Bi ht hP⟩, hS.F ht⟩) hS.2.2 dX3_rule_22
  · by_cases c_6 : x1 = 1
    · refine og_cqS (q := ad 1 1) (og_runV (C := RX3) (T := TX3) (N := 14) (g := 0) (i := 0) (As := [.int x1]) (rest := []) ⟨hx, hb, hml, hown, hts⟩ (kX3_kindNumbered l D ca ad A st x1) (cwV 1 hts gX3_rule_X3_kindNumbered rfl rfl rfl (by decide +kernel) ⟨Nat.le_of_ble_eq_true rfl, Nat.le_of_ble_eq_true rfl⟩) hC hP hS (ow_q0_0) rfl rfl rfl hl.1 rfl (Nat.le_of_ble_eq_true rfl) dX3_rule_2 ⟨Nat.zero_le _, Nat.zero_le _⟩) hS (by simp only [fX3_kindNumbered, if_neg c_1, if_pos c_6]) (fun H locs hP hS => ?_)
      refine lv_astore (lv' := [(5, .ref (ad 1 1)), (0, .ref (ad 0 0)), (1, .int x1), (2, .int x2), (3, .long x3)]) hx hb dX3_rule_5 hl (by decide) rfl (fun ls hl => ?_)
      refine lv_aload hx hb dX3_rule_7 (lv_at hl 0 rfl) ?_
      refine lv_ifnull hx hb dX3_rule_9 ?_
      refine lv_aload hx hb dX3_rule_12 (lv_at hl 0 rfl) ?_
      refine lv_iload_n hx hb dX3_rule_14 rfl (lv_at hl 3 rfl) ?_
      refine og_ciP (og_runVN (C := RX0) (T := TX0) (N := 7) (g := 1) (i := 1) (As := [.int x2]) (rest := []) ⟨hx, hb, hml, hown, hts⟩ (kX0_has l D ca ad A st 1 (by decide) x2) ⟨va_cnB 1 hts gX3_rule_X0_has_n101 rfl rfl rfl (hC.2.2.1 _ ln_X3_rule_0) (hts _ lk_X3_rule_1) (by decide +kernel) ⟨Nat.le_of_ble_eq_true rfl, Nat.le_of_ble_eq_true rfl⟩, (hts _ lk_X3_rule_2), (hts _ lk_X3_rule_3)⟩ hC hP hS (ow_q1_1) rfl rfl rfl hl.1 rfl (Nat.le_of_ble_eq_true rfl) dX3_rule_15 ⟨Nat.zero_le _, Nat.zero_le _⟩) hS (fun H locs hP hS => ?_)
      refine lv_if_ne (tgt := 23) hx hb dX3_rule_18 (by decide) (fun c_7 => ?_) (fun c_7 => ?_)
      · refine lv_aload hx hb dX3_rule_23 (lv_at hl 0 rfl) ?_
        refine lv_iload_n hx hb dX3_rule_25 rfl (lv_at hl 3 rfl) ?_
        refine og_ciP (og_runVN (C := RX0) (T := TX0) (N := 7) (g := 1) (i := 1) (As := [.int x2]) (rest := []) ⟨hx, hb, hml, hown, hts⟩ (kX0_constantOf l D ca ad A st 1 (by decide) x2) ⟨va_cnB 1 hts gX3_rule_X0_constantOf_n94 rfl rfl rfl (hC.2.2.1 _ ln_X3_rule_4) (hts _ lk_X3_rule_1) (by decide +kernel) ⟨Nat.le_of_ble_eq_true rfl, Nat.le_of_ble_eq_true rfl⟩, (hts _ lk_X3_rule_5), (hts _ lk_X3_rule_6)⟩ hC hP hS (ow_q1_1) rfl rfl rfl hl.1 rfl (Nat.le_of_ble_eq_true rfl) dX3_rule_26 ⟨Nat.zero_le _, Nat.zero_le _⟩) hS (fun H locs hP hS => ?_)
        refine lv_istore (lv' := [(6, .int (fX0_constantOf st 1 x2)), (5, .ref (ad 1 1)), (0, .ref (ad 0 0)), (1, .int x1), (2, .int x2), (3, .long x3)]) hx hb dX3_rule_29 hl (by decide) rfl (fun ls hl => ?_)
        refine lv_aload_n hx hb dX3_rule_31 rfl (lv_at hl 2 rfl) ?_
        refine lv_aload hx hb dX3_rule_32 (lv_at hl 1 rfl) ?_
        refine lv_iload hx hb dX3_rule_34 (lv_at hl 0 rfl) ?_
        refine lv_lload_n hx hb dX3_rule_36 rfl (lv_at hl 5 rfl) ?_
        refine og_ciW (og_runV (C := RX3) (T := TX3) (N := 14) (g := 0) (i := 0) (As := [.ref (ad 1 1), .int (fX0_constantOf st 1 x2), .long x3]) (rest := []) ⟨hx, hb, hml, hown, hts⟩ (kX3_askRule_1 l D ca ad A st (fX0_constantOf st 1 x2) x3) (cwV 3 hts gX3_rule_X3_askRule rfl rfl rfl (by decide +kernel) ⟨Nat.le_of_ble_eq_true rfl, Nat.le_of_ble_eq_true rfl⟩) hC hP hS (ow_q0_0) rfl rfl rfl hl.1 rfl (Nat.le_of_ble_eq_true rfl) dX3_rule_37 ⟨Nat.zero_le _, Nat.zero_le _⟩) hS (fun H locs hP hS => ?_)
        obtain ⟨st8, e8⟩ : ∃ z, z = (fX3_askRule_1 st (fX0_constantOf st 1 x2) x3).2 := ⟨_, rfl⟩
        rw [← e8] at hP
        refine lv_istore (lv' := [(7, .int ((fX3_askRule_1 st (fX0_constantOf st 1 x2) x3).1)), (6, .int (fX0_constantOf st 1 x2)), (5, .ref (ad 1 1)), (0, .ref (ad 0 0)), (1, .int x1), (2, .int x2), (3, .long x3)]) hx hb dX3_rule_40 hl (by decide) rfl (fun ls hl => ?_)
        refine lv_iload hx hb dX3_rule_42 (lv_at hl 0 rfl) ?_
        refine lv_iconst (v := 1) hx hb dX3_rule_44 (by decide) ?_
        refine lv_icmp_ne (tgt := 60) hx hb dX3_rule_45 (by decide) (fun c_9 => ?_) (fun c_9 => ?_)
        · refine lv_iload hx hb dX3_rule_60 (lv_at hl 0 rfl) ?_
          exact W.iret (v := (fX3_askRule_1 st (fX0_constantOf st 1 x2) x3).1) hx hb hr (fun t ht hW => ⟨⟨(fX3_askRule_1 st (fX0_constantOf st 1 x2) x3).1, st8, rfl, (by subst e8; simp only [fX3_rule, if_neg c_1, if_pos c_6, if_neg c_7, if_neg c_9]), ow_Bi ht hP⟩, hS.F ht⟩) hS.2.2 dX3_rule_62
        · refine lv_aload_n hx hb dX3_rule_48 rfl (lv_at hl 3 rfl) ?_
          refine lv_aload hx hb dX3_rule_49 (lv_at hl 2 rfl) ?_
          refine lv_iload hx hb dX3_rule_51 (lv_at hl 1 rfl) ?_
          refine lv_lload_n hx hb dX3_rule_53 rfl (lv_at hl 6 rfl) ?_
          refine og_clP (og_runS (As := [.ref (ad 1 1), .int (fX0_constantOf st 1 x2), .long x3]) (rest := [.ref (ad 0 0)]) ⟨hx, hb, hml, hown, hts⟩ (kX3_valueOf_1 l D ca ad A st8 (fX0_constantOf st 1 x2) x3) (va_cwS 3 hts gX3_rule_X3_valueOf rfl rfl rfl (by decide +kernel) ⟨Nat.le_of_ble_eq_true rfl, Nat.le_of_ble_eq_true rfl⟩) hC hP hS rfl hl.1 rfl (Nat.le_of_ble_eq_true rfl) dX3_rule_54 ⟨Nat.zero_le _, Nat.zero_le _⟩) hS (fun H locs hP hS => ?_)
          refine og_put (C := RX3) (T := TX3) (N := 14) (g := 0) (i := 0) (v := .long (fX3_valueOf_1 st8 (fX0_constantOf st 1 x2) x3)) (ty := .long) hx hb hts li_X3_rule_X3 tyX3 tyX3_ok nmX3 hown hC hP hS (ow_q0_0) rfl rfl 6 (by decide) (hts _ lk_X3_rule_7) rfl rfl (by decide +kernel) rfl rfl (Nat.le_of_ble_eq_true rfl) (we_0_l st8 (fX3_valueOf_1 st8 (fX0_constantOf st 1 x2) x3)) dX3_rule_57 (fun H locs hP hS => ?_)
          obtain ⟨st10, e10⟩ : ∃ z, z = (ow_sl st8 0 (fX3_valueOf_1 st8 (fX0_constantOf st 1 x2) x3)) := ⟨_, rfl⟩
          rw [← e10] at hP
          refine lv_iload hx hb dX3_rule_60 (lv_at hl 0 rfl) ?_
          exact W.iret (v := (fX3_askRule_1 st (fX0_constantOf st 1 x2) x3).1) hx hb hr (fun t ht hW => ⟨⟨(fX3_askRule_1 st (fX0_constantOf st 1 x2) x3).1, st10, rfl, (by subst e10; subst e8; simp only [fX3_rule, if_neg c_1, if_pos c_6, if_neg c_7, if_pos c_9]), ow_Bi ht hP⟩, hS.F ht⟩) hS.2.2 dX3_rule_62
      · refine lv_iconst (v := (-1)) hx hb dX3_rule_21 (by decide) ?_
        exact W.iret (v := (-1)) hx hb hr (fun t ht hW => ⟨⟨(-1), st, rfl, (by simp only [fX3_rule, if_neg c_1, if_pos c_6, if_pos c_7]), ow_Bi ht hP⟩, hS.F ht⟩) hS.2.2 dX3_rule_22
    · by_cases c_11 : x1 = 2
      · refine og_cqS (q := ad 1 2) (og_runV (C := RX3) (T := TX3) (N := 14) (g := 0) (i := 0) (As := [.int x1]) (rest := []) ⟨hx, hb, hml, hown, hts⟩ (kX3_kindNumbered l D ca ad A st x1) (cwV 1 hts gX3_rule_X3_kindNumbered rfl rfl rfl (by decide +kernel) ⟨Nat.le_of_ble_eq_true rfl, Nat.le_of_ble_eq_true rfl⟩) hC hP hS (ow_q0_0) rfl rfl rfl hl.1 rfl (Nat.le_of_ble_eq_true rfl) dX3_rule_2 ⟨Nat.zero_le _, Nat.zero_le _⟩) hS (by simp only [fX3_kindNumbered, if_neg c_1, if_neg c_6, if_pos c_11]) (fun H locs hP hS => ?_)
        refine lv_astore (lv' := [(5, .ref (ad 1 2)), (0, .ref (ad 0 0)), (1, .int x1), (2, .int x2), (3, .long x3)]) hx hb dX3_rule_5 hl (by decide) rfl (fun ls hl => ?_)
        refine lv_aload hx hb dX3_rule_7 (lv_at hl 0 rfl) ?_
        refine lv_ifnull hx hb dX3_rule_9 ?_
        refine lv_aload hx hb dX3_rule_12 (lv_at hl 0 rfl) ?_
        refine lv_iload_n hx hb dX3_rule_14 rfl (lv_at hl 3 rfl) ?_
        refine og_ciP (og_runVN (C := RX0) (T := TX0) (N := 7) (g := 1) (i := 2) (As := [.int x2]) (rest := []) ⟨hx, hb, hml, hown, hts⟩ (kX0_has l D ca ad A st 2 (by decide) x2) ⟨va_cnB 1 hts gX3_rule_X0_has_n101 rfl rfl rfl (hC.2.2.1 _ ln_X3_rule_0) (hts _ lk_X3_rule_1) (by decide +kernel) ⟨Nat.le_of_ble_eq_true rfl, Nat.le_of_ble_eq_true rfl⟩, (hts _ lk_X3_rule_2), (hts _ lk_X3_rule_3)⟩ hC hP hS (ow_q1_2) rfl rfl rfl hl.1 rfl (Nat.le_of_ble_eq_true rfl) dX3_rule_15 ⟨Nat.zero_le _, Nat.zero_le _⟩) hS (fun H locs hP hS => ?_)
        refine lv_if_ne (tgt := 23) hx hb dX3_rule_18 (by decide) (fun c_12 => ?_) (fun c_12 => ?_)
        · refine lv_aload hx hb dX3_rule_23 (lv_at hl 0 rfl) ?_
          refine lv_iload_n hx hb dX3_rule_25 rfl (lv_at hl 3 rfl) ?_
          refine og_ciP (og_runVN (C := RX0) (T := TX0) (N := 7) (g := 1) (i := 2) (As := [.int x2]) (rest := []) ⟨hx, hb, hml, hown, hts⟩ (kX0_constantOf l D ca ad A st 2 (by decide) x2) ⟨va_cnB 1 hts gX3_rule_X0_constantOf_n94 rfl rfl rfl (hC.2.2.1 _ ln_X3_rule_4) (hts _ lk_X3_rule_1) (by decide +kernel) ⟨Nat.le_of_ble_eq_true rfl, Nat.le_of_ble_eq_true rfl⟩, (hts _ lk_X3_rule_5), (hts _ lk_X3_rule_6)⟩ hC hP hS (ow_q1_2) rfl rfl rfl hl.1 rfl (Nat.le_of_ble_eq_true rfl) dX3_rule_26 ⟨Nat.zero_le _, Nat.zero_le _⟩) hS (fun H locs hP hS => ?_)
          refine lv_istore (lv' := [(6, .int (fX0_constantOf st 2 x2)), (5, .ref (ad 1 2)), (0, .ref (ad 0 0)), (1, .int x1), (2, .int x2), (3, .long x3)]) hx hb dX3_rule_29 hl (by decide) rfl (fun ls hl => ?_)
          refine lv_aload_n hx hb dX3_rule_31 rfl (lv_at hl 2 rfl) ?_
          refine lv_aload hx hb dX3_rule_32 (lv_at hl 1 rfl) ?_
          refine lv_iload hx hb dX3_rule_34 (lv_at hl 0 rfl) ?_
          refine lv_lload_n hx hb dX3_rule_36 rfl (lv_at hl 5 rfl) ?_
          refine og_ciW (og_runV (C := RX3) (T := TX3) (N := 14) (g := 0) (i := 0) (As := [.ref (ad 1 2), .int (fX0_constantOf st 2 x2), .long x3]) (rest := []) ⟨hx, hb, hml, hown, hts⟩ (kX3_askRule_2 l D ca ad A st (fX0_constantOf st 2 x2) x3) (cwV 3 hts gX3_rule_X3_askRule rfl rfl rfl (by decide +kernel) ⟨Nat.le_of_ble_eq_true rfl, Nat.le_of_ble_eq_true rfl⟩) hC hP hS (ow_q0_0) rfl rfl rfl hl.1 rfl (Nat.le_of_ble_eq_true rfl) dX3_rule_37 ⟨Nat.zero_le _, Nat.zero_le _⟩) hS (fun H locs hP hS => ?_)
          obtain ⟨st13, e13⟩ : ∃ z, z = (fX3_askRule_2 st (fX0_constantOf st 2 x2) x3).2 := ⟨_, rfl⟩
          rw [← e13] at hP
          refine lv_istore (lv' := [(7, .int ((fX3_askRule_2 st (fX0_constantOf st 2 x2) x3).1)), (6, .int (fX0_constantOf st 2 x2)), (5, .ref (ad 1 2)), (0, .ref (ad 0 0)), (1, .int x1), (2, .int x2), (3, .long x3)]) hx hb dX3_rule_40 hl (by decide) rfl (fun ls hl => ?_)
          refine lv_iload hx hb dX3_rule_42 (lv_at hl 0 rfl) ?_
          refine lv_iconst (v := 1) hx hb dX3_rule_44 (by decide) ?_
          refine lv_icmp_ne (tgt := 60) hx hb dX3_rule_45 (by decide) (fun c_14 => ?_) (fun c_14 => ?_)
          · refine lv_iload hx hb dX3_rule_60 (lv_at hl 0 rfl) ?_
            exact W.iret (v := (fX3_askRule_2 st (fX0_constantOf st 2 x2) x3).1) hx hb hr (fun t ht hW => ⟨⟨(fX3_askRule_2 st (fX0_constantOf st 2 x2) x3).1, st13, rfl, (by subst e13; simp only [fX3_rule, if_neg c_1, if_neg c_6, if_pos c_11, if_neg c_12, if_neg c_14]), ow_Bi ht hP⟩, hS.F ht⟩) hS.2.2 dX3_rule_62
          · refine lv_aload_n hx hb dX3_rule_48 rfl (lv_at hl 3 rfl) ?_
            refine lv_aload hx hb dX3_rule_49 (lv_at hl 2 rfl) ?_
            refine lv_iload hx hb dX3_rule_51 (lv_at hl 1 rfl) ?_
            refine lv_lload_n hx hb dX3_rule_53 rfl (lv_at hl 6 rfl) ?_
            refine og_clP (og_runS (As := [.ref (ad 1 2), .int (fX0_constantOf st 2 x2), .long x3]) (rest := [.ref (ad 0 0)]) ⟨hx, hb, hml, hown, hts⟩ (kX3_valueOf_2 l D ca ad A st13 (fX0_constantOf st 2 x2) x3) (va_cwS 3 hts gX3_rule_X3_valueOf rfl rfl rfl (by decide +kernel) ⟨Nat.le_of_ble_eq_true rfl, Nat.le_of_ble_eq_true rfl⟩) hC hP hS rfl hl.1 rfl (Nat.le_of_ble_eq_true rfl) dX3_rule_54 ⟨Nat.zero_le _, Nat.zero_le _⟩) hS (fun H locs hP hS => ?_)
            refine og_put (C := RX3) (T := TX3) (N := 14) (g := 0) (i := 0) (v := .long (fX3_valueOf_2 st13 (fX0_constantOf st 2 x2) x3)) (ty := .long) hx hb hts li_X3_rule_X3 tyX3 tyX3_ok nmX3 hown hC hP hS (ow_q0_0) rfl rfl 6 (by decide) (hts _ lk_X3_rule_7) rfl rfl (by decide +kernel) rfl rfl (Nat.le_of_ble_eq_true rfl) (we_0_l st13 (fX3_valueOf_2 st13 (fX0_constantOf st 2 x2) x3)) dX3_rule_57 (fun H locs hP hS => ?_)
            obtain ⟨st15, e15⟩ : ∃ z, z = (ow_sl st13 0 (fX3_valueOf_2 st13 (fX0_constantOf st 2 x2) x3)) := ⟨_, rfl⟩
            rw [← e15] at hP
            refine lv_iload hx hb dX3_rule_60 (lv_at hl 0 rfl) ?_
            exact W.iret (v := (fX3_askRule_2 st (fX0_constantOf st 2 x2) x3).1) hx hb hr (fun t ht hW => ⟨⟨(fX3_askRule_2 st (fX0_constantOf st 2 x2) x3).1, st15, rfl, (by subst e15; subst e13; simp only [fX3_rule, if_neg c_1, if_neg c_6, if_pos c_11, if_neg c_12, if_pos c_14]), ow_Bi ht hP⟩, hS.F ht⟩) hS.2.2 dX3_rule_62
        · refine lv_iconst (v := (-1)) hx hb dX3_rule_21 (by decide) ?_
          exact W.iret (v := (-1)) hx hb hr (fun t ht hW => ⟨⟨(-1), st, rfl, (by simp only [fX3_rule, if_neg c_1, if_neg c_6, if_pos c_11, if_pos c_12]), ow_Bi ht hP⟩, hS.F ht⟩) hS.2.2 dX3_rule_22
      · refine og_cqN (og_runV (C := RX3) (T := TX3) (N := 14) (g := 0) (i := 0) (As := [.int x1]) (rest := []) ⟨hx, hb, hml, hown, hts⟩ (kX3_kindNumbered l D ca ad A st x1) (cwV 1 hts gX3_rule_X3_kindNumbered rfl rfl rfl (by decide +kernel) ⟨Nat.le_of_ble_eq_true rfl, Nat.le_of_ble_eq_true rfl⟩) hC hP hS (ow_q0_0) rfl rfl rfl hl.1 rfl (Nat.le_of_ble_eq_true rfl) dX3_rule_2 ⟨Nat.zero_le _, Nat.zero_le _⟩) hS (by simp only [fX3_kindNumbered, if_neg c_1, if_neg c_6, if_neg c_11]) (fun H locs hP hS => ?_)
        refine lv_astoreN (lv' := [(5, .null), (0, .ref (ad 0 0)), (1, .int x1), (2, .int x2), (3, .long x3)]) hx hb dX3_rule_5 hl (by decide) rfl (fun ls hl => ?_)
        refine lv_aloadN hx hb dX3_rule_7 (lv_at hl 0 rfl) ?_
        refine lv_ifnullN (tgt := 21) hx hb dX3_rule_9 (by decide) ?_
        refine lv_iconst (v := (-1)) hx hb dX3_rule_21 (by decide) ?_
        exact W.iret (v := (-1)) hx hb hr (fun t ht hW => ⟨⟨(-1), st, rfl, (by simp only [fX3_rule, if_neg c_1, if_neg c_6, if_neg c_11]), ow_Bi ht hP⟩, hS.F ht⟩) hS.2.2 dX3_rule_22

theorem li_X3_result_X3 : ∀ w ∈ u_ws RX3 TX3 14, w ∈ wsX3_result := by decide +kernel
theorem lk_X3_result_1 : (.fieldLink RX3 52 "RecordLabels" "lastResult" "J" : Cond) ∈ wsX3_result := by decide +kernel
def fX3_result (st : ow_St) : Int64 := (st.2.1 0)
set_option maxHeartbeats 4000000 in
set_option maxRecDepth 100000 in
theorem kX3_result (l : Launch) (D : va_G) (ca : Nat → ClassId) (ad : ow_Ad) (A : Nat → Prop) (st : ow_St)  : Met l yX3_result wsX3_result ({ frames := 0, cells := 0, slots := 0, locals := 0 }) (va_Pc [.ref (ad 0 0)] (ow_W D ca ad A st)) (va_Ql (fun r st' => r = (fX3_result st) ∧ st' = st) (ow_B D ca ad) A) 0 0 A := by
  refine Met.ofW (cc := cX3_result) (maxL := 1) (ret := (some .long)) (by decide) rfl ?_
  intro p e s m args below meth c s₁ B hml hv
  obtain ⟨rfl, hP, hC⟩ := hv
  have hx := B.exec
  have hb := B.bytes
  have hr := B.returns
  have hts := atoms_spec (ws := wsX3_result) B.pre
  have hown : s.vm.findClass RX3 = some m.cls := findClass_of_methodNamed B.named
  have hlocks := B.notSynchronized
  have hS : va_S A s.heap s.heap [] := va_S.rf
  have hl := lv_entry ([.ref (ad 0 0)]) (n := 1) (Nat.le_of_ble_eq_true rfl)
  rw [lg_entry_eq]
  generalize (lg_sl ([.ref (ad 0 0)]) ++ List.replicate (1 - (lg_sl ([.ref (ad 0 0)])).length) Slot.unset).toArray = ls at hl ⊢
  have hl : lv_has ls 1 [(0, .ref (ad 0 0))] := hl
  refine lv_aload_n hx hb dX3_result_0 rfl (lv_at hl 0 rfl) ?_
  refine og_get (C := RX3) (T := TX3) (N := 14) (g := 0) (i := 0) (v := .long (st.2.1 0)) hx hb hts li_X3_result_X3 hown hC hP (ow_q0_0) rfl rfl 6 (by decide) (hts _ lk_X3_result_1) rfl rfl dX3_result_1 ?_
  exact W.lret (v := (st.2.1 0)) hx hb hr (fun t ht hW => ⟨⟨(st.2.1 0), st, rfl, ⟨(by simp only [fX3_result]), rfl⟩, ow_Bi ht hP⟩, hS.F ht⟩) hS.2.2 dX3_result_4

theorem ln_X3_fail_0 : (.fieldLinkNest RX3 117 "RecordLabels$Kind" "start" "I" "RecordLabels" : Cond) ∈ ow_nest := by decide +kernel
theorem li_X3_fail_X0 : ∀ w ∈ u_ws RX0 TX0 7, w ∈ wsX3_fail := by decide +kernel
theorem ln_X3_fail_2 : (.fieldLinkNest RX3 120 "RecordLabels$Kind" "toldToFail" "Z" "RecordLabels" : Cond) ∈ ow_nest := by decide +kernel
def fX3_fail (st : ow_St) (x1 x2 : Int32) : Int32 × ow_St := (if x1 = 0 then (if (st.1 1 0) = 0 then (let st3 := (ow_si st 2 0 x2); ((fX3_oneIf st (st.1 2 0)), st3)) else ((-3), st)) else (if x1 = 1 then (if (st.1 1 1) = 0 then (let st6 := (ow_si st 2 1 x2); ((fX3_oneIf st (st.1 2 1)), st6)) else ((-3), st)) else (if x1 = 2 then (if (st.1 1 2) = 0 then (let st9 := (ow_si st 2 2 x2); ((fX3_oneIf st (st.1 2 2)), st9)) else ((-3), st)) else ((-1), st))))
set_option maxHeartbeats 4000000 in
set_option maxRecDepth 100000 in
theorem kX3_fail (l : Launch) (D : va_G) (ca : Nat → ClassId) (ad : ow_Ad) (A : Nat → Prop) (st : ow_St) (x1 : Int32) (x2 : Int32) (hon : x2 = 0 ∨ x2 = 1) : Met l yX3_fail wsX3_fail ({ frames := 1, cells := 0, slots := 0, locals := 21 }) (va_Pc [.ref (ad 0 0), .int x1, .int x2] (ow_W D ca ad A st)) (va_Qi (fun r st' => (r, st') = (fX3_fail st x1 x2)) (ow_B D ca ad) A) 0 0 A := by
  refine Met.ofW (cc := cX3_fail) (maxL := 5) (ret := (some .int)) (by decide) rfl ?_
  intro p e s m args below meth c s₁ B hml hv
  obtain ⟨rfl, hP, hC⟩ := hv
  have hx := B.exec
  have hb := B.bytes
  have hr := B.returns
  have hts := atoms_spec (ws := wsX3_fail) B.pre
  have hown : s.vm.findClass RX3 = some m.cls := findClass_of_methodNamed B.named
  have hlocks := B.notSynchronized
  have hS : va_S A s.heap s.heap [] := va_S.rf
  have hl := lv_entry ([.ref (ad 0 0), .int x1, .int x2]) (n := 5) (Nat.le_of_ble_eq_true rfl)
  rw [lg_entry_eq]
  generalize (lg_sl ([.ref (ad 0 0), .int x1, .int x2]) ++ List.replicate (5 - (lg_sl ([.ref (ad 0 0), .int x1, .int x2])).length) Slot.unset).toArray = ls at hl ⊢
  have hl : lv_has ls 5 [(0, .ref (ad 0 0)), (1, .int x1), (2, .int x2)] := hl
  refine lv_aload_n hx hb dX3_fail_0 rfl (lv_at hl 0 rfl) ?_
  refine lv_iload_n hx hb dX3_fail_1 rfl (lv_at hl 1 rfl) ?_
  by_cases c_1 : x1 = 0
  · refine og_cqS (q := ad 1 0) (og_runV (C := RX3) (T := TX3) (N := 14) (g := 0) (i := 0) (As := [.int x1]) (rest := []) ⟨hx, hb, hml, hown, hts⟩ (kX3_kindNumbered l D ca ad A st x1) (cwV 1 hts gX3_fail_X3_kindNumbered rfl rfl rfl (by decide +kernel) ⟨Nat.le_of_ble_eq_true rfl, Nat.le_of_ble_eq_true rfl⟩) hC hP hS (ow_q0_0) rfl rfl rfl hl.1 rfl (Nat.le_of_ble_eq_true rfl) dX3_fail_2 ⟨Nat.zero_le _, Nat.zero_le _⟩) hS (by simp only [fX3_kindNumbered, if_pos c_1]) (fun H locs hP hS => ?_)
    refine lv_astore_n (lv' := [(3, .ref (ad 1 0)), (0, .ref (ad 0 0)), (1, .int x1), (2, .int x2)]) hx hb dX3_fail_5 rfl hl (by decide) rfl (fun ls hl => ?_)
    refine lv_aload_n hx hb dX3_fail_6 rfl (lv_at hl 0 rfl) ?_
    refine lv_ifnonnull (tgt := 12) hx hb dX3_fail_7 (by decide) ?_
    refine lv_aload_n hx hb dX3_fail_12 rfl (lv_at hl 0 rfl) ?_
    refine og_getN (C := RX0) (T := TX0) (N := 7) (g := 1) (i := 0) (v := .int (st.1 1 0)) hx hb hts li_X3_fail_X0 hown hC hP (ow_q1_0) rfl rfl 5 (by decide) ln_X3_fail_0 rfl rfl dX3_fail_13 ?_
    refine lv_if_eq (tgt := 22) hx hb dX3_fail_16 (by decide) (fun c_2 => ?_) (fun c_2 => ?_)
    · refine lv_aload_n hx hb dX3_fail_22 rfl (lv_at hl 0 rfl) ?_
      refine og_getN (C := RX0) (T := TX0) (N := 7) (g := 1) (i := 0) (v := .int (st.1 2 0)) hx hb hts li_X3_fail_X0 hown hC hP (ow_q1_0) rfl rfl 6 (by decide) ln_X3_fail_2 rfl rfl dX3_fail_23 ?_
      refine og_ciP (og_runS (As := [.int (st.1 2 0)]) (rest := []) ⟨hx, hb, hml, hown, hts⟩ (kX3_oneIf l D ca ad A st (st.1 2 0)) (va_cwS 1 hts gX3_fail_X3_oneIf rfl rfl rfl (by decide +kernel) ⟨Nat.le_of_ble_eq_true rfl, Nat.le_of_ble_eq_true rfl⟩) hC hP hS rfl hl.1 rfl (Nat.le_of_ble_eq_true rfl) dX3_fail_26 ⟨Nat.zero_le _, Nat.zero_le _⟩) hS (fun H locs hP hS => ?_)
      refine lv_istore (lv' := [(4, .int (fX3_oneIf st (st.1 2 0))), (3, .ref (ad 1 0)), (0, .ref (ad 0 0)), (1, .int x1), (2, .int x2)]) hx hb dX3_fail_29 hl (by decide) rfl (fun ls hl => ?_)
      refine lv_aload_n hx hb dX3_fail_31 rfl (lv_at hl 1 rfl) ?_
      refine lv_iload_n hx hb dX3_fail_32 rfl (lv_at hl 4 rfl) ?_
      refine og_putN (C := RX0) (T := TX0) (N := 7) (g := 1) (i := 0) (v := .int x2) (ty := .boolean) hx hb hts li_X3_fail_X0 tyX0 tyX0_ok nmX0 hown hC hP hS (ow_q1_0) rfl rfl 6 (by decide) ln_X3_fail_2 rfl rfl (by decide +kernel) (by rcases hon with rfl | rfl <;> rfl) (by rcases hon with rfl | rfl <;> rfl) (Nat.le_of_ble_eq_true rfl) (we_1_2 st 0 x2) dX3_fail_33 (fun H locs hP hS => ?_)
      obtain ⟨st3, e3⟩ : ∃ z, z = (ow_si st 2 0 x2) := ⟨_, rfl⟩
      rw [← e3] at hP
      refine lv_iload hx hb dX3_fail_36 (lv_at hl 0 rfl) ?_
      exact W.iret (v := (fX3_oneIf st (st.1 2 0))) hx hb hr (fun t ht hW => ⟨⟨(fX3_oneIf st (st.1 2 0)), st3, rfl, (by subst e3; simp only [fX3_fail, if_pos c_1, if_pos c_2]), ow_Bi ht hP⟩, hS.F ht⟩) hS.2.2 dX3_fail_38
    · refine lv_bipush (v := (-3)) hx hb dX3_fail_19 (by decide) ?_
      exact W.iret (v := (-3)) hx hb hr (fun t ht hW => ⟨⟨(-3), st, rfl, (by simp only [fX3_fail, if_pos c_1, if_neg c_2]), ow_Bi ht hP⟩, hS.F ht⟩) hS.2.2 dX3_fail_21
  · by_cases c_4 : x1 = 1
    · refine og_cqS (q := ad 1 1) (og_runV (C := RX3) (T := TX3) (N := 14) (g := 0) (i := 0) (As := [.int x1]) (rest := []) ⟨hx, hb, hml, hown, hts⟩ (kX3_kindNumbered l D ca ad A st x1) (cwV 1 hts gX3_fail_X3_kindNumbered rfl rfl rfl (by decide +kernel) ⟨Nat.le_of_ble_eq_true rfl, Nat.le_of_ble_eq_true rfl⟩) hC hP hS (ow_q0_0) rfl rfl rfl hl.1 rfl (Nat.le_of_ble_eq_true rfl) dX3_fail_2 ⟨Nat.zero_le _, Nat.zero_le _⟩) hS (by simp only [fX3_kindNumbered, if_neg c_1, if_pos c_4]) (fun H locs hP hS => ?_)
      refine lv_astore_n (lv' := [(3, .ref (ad 1 1)), (0, .ref (ad 0 0)), (1, .int x1), (2, .int x2)]) hx hb dX3_fail_5 rfl hl (by decide) rfl (fun ls hl => ?_)
      refine lv_aload_n hx hb dX3_fail_6 rfl (lv_at hl 0 rfl) ?_
      refine lv_ifnonnull (tgt := 12) hx hb dX3_fail_7 (by decide) ?_
      refine lv_aload_n hx hb dX3_fail_12 rfl (lv_at hl 0 rfl) ?_
      refine og_getN (C := RX0) (T := TX0) (N := 7) (g := 1) (i := 1) (v := .int (st.1 1 1)) hx hb hts li_X3_fail_X0 hown hC hP (ow_q1_1) rfl rfl 5 (by decide) ln_X3_fail_0 rfl rfl dX3_fail_13 ?_
      refine lv_if_eq (tgt := 22) hx hb dX3_fail_16 (by decide) (fun c_5 => ?_) (fun c_5 => ?_)
      · refine lv_aload_n hx hb dX3_fail_22 rfl (lv_at hl 0 rfl) ?_
        refine og_getN (C := RX0) (T := TX0) (N := 7) (g := 1) (i := 1) (v := .int (st.1 2 1)) hx hb hts li_X3_fail_X0 hown hC hP (ow_q1_1) rfl rfl 6 (by decide) ln_X3_fail_2 rfl rfl dX3_fail_23 ?_
        refine og_ciP (og_runS (As := [.int (st.1 2 1)]) (rest := []) ⟨hx, hb, hml, hown, hts⟩ (kX3_oneIf l D ca ad A st (st.1 2 1)) (va_cwS 1 hts gX3_fail_X3_oneIf rfl rfl rfl (by decide +kernel) ⟨Nat.le_of_ble_eq_true rfl, Nat.le_of_ble_eq_true rfl⟩) hC hP hS rfl hl.1 rfl (Nat.le_of_ble_eq_true rfl) dX3_fail_26 ⟨Nat.zero_le _, Nat.zero_le _⟩) hS (fun H locs hP hS => ?_)
        refine lv_istore (lv' := [(4, .int (fX3_oneIf st (st.1 2 1))), (3, .ref (ad 1 1)), (0, .ref (ad 0 0)), (1, .int x1), (2, .int x2)]) hx hb dX3_fail_29 hl (by decide) rfl (fun ls hl => ?_)
        refine lv_aload_n hx hb dX3_fail_31 rfl (lv_at hl 1 rfl) ?_
        refine lv_iload_n hx hb dX3_fail_32 rfl (lv_at hl 4 rfl) ?_
        refine og_putN (C := RX0) (T := TX0) (N := 7) (g := 1) (i := 1) (v := .int x2) (ty := .boolean) hx hb hts li_X3_fail_X0 tyX0 tyX0_ok nmX0 hown hC hP hS (ow_q1_1) rfl rfl 6 (by decide) ln_X3_fail_2 rfl rfl (by decide +kernel) (by rcases hon with rfl | rfl <;> rfl) (by rcases hon with rfl | rfl <;> rfl) (Nat.le_of_ble_eq_true rfl) (we_1_2 st 1 x2) dX3_fail_33 (fun H locs hP hS => ?_)
        obtain ⟨st6, e6⟩ : ∃ z, z = (ow_si st 2 1 x2) := ⟨_, rfl⟩
        rw [← e6] at hP
        refine lv_iload hx hb dX3_fail_36 (lv_at hl 0 rfl) ?_
        exact W.iret (v := (fX3_oneIf st (st.1 2 1))) hx hb hr (fun t ht hW => ⟨⟨(fX3_oneIf st (st.1 2 1)), st6, rfl, (by subst e6; simp only [fX3_fail, if_neg c_1, if_pos c_4, if_pos c_5]), ow_Bi ht hP⟩, hS.F ht⟩) hS.2.2 dX3_fail_38
      · refine lv_bipush (v := (-3)) hx hb dX3_fail_19 (by decide) ?_
        exact W.iret (v := (-3)) hx hb hr (fun t ht hW => ⟨⟨(-3), st, rfl, (by simp only [fX3_fail, if_neg c_1, if_pos c_4, if_neg c_5]), ow_Bi ht hP⟩, hS.F ht⟩) hS.2.2 dX3_fail_21
    · by_cases c_7 : x1 = 2
      · refine og_cqS (q := ad 1 2) (og_runV (C := RX3) (T := TX3) (N := 14) (g := 0) (i := 0) (As := [.int x1]) (rest := []) ⟨hx, hb, hml, hown, hts⟩ (kX3_kindNumbered l D ca ad A st x1) (cwV 1 hts gX3_fail_X3_kindNumbered rfl rfl rfl (by decide +kernel) ⟨Nat.le_of_ble_eq_true rfl, Nat.le_of_ble_eq_true rfl⟩) hC hP hS (ow_q0_0) rfl rfl rfl hl.1 rfl (Nat.le_of_ble_eq_true rfl) dX3_fail_2 ⟨Nat.zero_le _, Nat.zero_le _⟩) hS (by simp only [fX3_kindNumbered, if_neg c_1, if_neg c_4, if_pos c_7]) (fun H locs hP hS => ?_)
        refine lv_astore_n (lv' := [(3, .ref (ad 1 2)), (0, .ref (ad 0 0)), (1, .int x1), (2, .int x2)]) hx hb dX3_fail_5 rfl hl (by decide) rfl (fun ls hl => ?_)
        refine lv_aload_n hx hb dX3_fail_6 rfl (lv_at hl 0 rfl) ?_
        refine lv_ifnonnull (tgt := 12) hx hb dX3_fail_7 (by decide) ?_
        refine lv_aload_n hx hb dX3_fail_12 rfl (lv_at hl 0 rfl) ?_
        refine og_getN (C := RX0) (T := TX0) (N := 7) (g := 1) (i := 2) (v := .int (st.1 1 2)) hx hb hts li_X3_fail_X0 hown hC hP (ow_q1_2) rfl rfl 5 (by decide) ln_X3_fail_0 rfl rfl dX3_fail_13 ?_
        refine lv_if_eq (tgt := 22) hx hb dX3_fail_16 (by decide) (fun c_8 => ?_) (fun c_8 => ?_)
        · refine lv_aload_n hx hb dX3_fail_22 rfl (lv_at hl 0 rfl) ?_
          refine og_getN (C := RX0) (T := TX0) (N := 7) (g := 1) (i := 2) (v := .int (st.1 2 2)) hx hb hts li_X3_fail_X0 hown hC hP (ow_q1_2) rfl rfl 6 (by decide) ln_X3_fail_2 rfl rfl dX3_fail_23 ?_
          refine og_ciP (og_runS (As := [.int (st.1 2 2)]) (rest := []) ⟨hx, hb, hml, hown, hts⟩ (kX3_oneIf l D ca ad A st (st.1 2 2)) (va_cwS 1 hts gX3_fail_X3_oneIf rfl rfl rfl (by decide +kernel) ⟨Nat.le_of_ble_eq_true rfl, Nat.le_of_ble_eq_true rfl⟩) hC hP hS rfl hl.1 rfl (Nat.le_of_ble_eq_true rfl) dX3_fail_26 ⟨Nat.zero_le _, Nat.zero_le _⟩) hS (fun H locs hP hS => ?_)
          refine lv_istore (lv' := [(4, .int (fX3_oneIf st (st.1 2 2))), (3, .ref (ad 1 2)), (0, .ref (ad 0 0)), (1, .int x1), (2, .int x2)]) hx hb dX3_fail_29 hl (by decide) rfl (fun ls hl => ?_)
          refine lv_aload_n hx hb dX3_fail_31 rfl (lv_at hl 1 rfl) ?_
          refine lv_iload_n hx hb dX3_fail_32 rfl (lv_at hl 4 rfl) ?_
          refine og_putN (C := RX0) (T := TX0) (N := 7) (g := 1) (i := 2) (v := .int x2) (ty := .boolean) hx hb hts li_X3_fail_X0 tyX0 tyX0_ok nmX0 hown hC hP hS (ow_q1_2) rfl rfl 6 (by decide) ln_X3_fail_2 rfl rfl (by decide +kernel) (by rcases hon with rfl | rfl <;> rfl) (by rcases hon with rfl | rfl <;> rfl) (Nat.le_of_ble_eq_true rfl) (we_1_2 st 2 x2) dX3_fail_33 (fun H locs hP hS => ?_)
          obtain ⟨st9, e9⟩ : ∃ z, z = (ow_si st 2 2 x2) := ⟨_, rfl⟩
          rw [← e9] at hP
          refine lv_iload hx hb dX3_fail_36 (lv_at hl 0 rfl) ?_
          exact W.iret (v := (fX3_oneIf st (st.1 2 2))) hx hb hr (fun t ht hW => ⟨⟨(fX3_oneIf st (st.1 2 2)), st9, rfl, (by subst e9; simp only [fX3_fail, if_neg c_1, if_neg c_4, if_pos c_7, if_pos c_8]), ow_Bi ht hP⟩, hS.F ht⟩) hS.2.2 dX3_fail_38
        · refine lv_bipush (v := (-3)) hx hb dX3_fail_19 (by decide) ?_
          exact W.iret (v := (-3)) hx hb hr (fun t ht hW => ⟨⟨(-3), st, rfl, (by simp only [fX3_fail, if_neg c_1, if_neg c_4, if_pos c_7, if_neg c_8]), ow_Bi ht hP⟩, hS.F ht⟩) hS.2.2 dX3_fail_21
      · refine og_cqN (og_runV (C := RX3) (T := TX3) (N := 14) (g := 0) (i := 0) (As := [.int x1]) (rest := []) ⟨hx, hb, hml, hown, hts⟩ (kX3_kindNumbered l D ca ad A st x1) (cwV 1 hts gX3_fail_X3_kindNumbered rfl rfl rfl (by decide +kernel) ⟨Nat.le_of_ble_eq_true rfl, Nat.le_of_ble_eq_true rfl⟩) hC hP hS (ow_q0_0) rfl rfl rfl hl.1 rfl (Nat.le_of_ble_eq_true rfl) dX3_fail_2 ⟨Nat.zero_le _, Nat.zero_le _⟩) hS (by simp only [fX3_kindNumbered, if_neg c_1, if_neg c_4, if_neg c_7]) (fun H locs hP hS => ?_)
        refine lv_astore_nN (lv' := [(3, .null), (0, .ref (ad 0 0)), (1, .int x1), (2, .int x2)]) hx hb dX3_fail_5 rfl hl (by decide) rfl (fun ls hl => ?_)
        refine lv_aload_nN hx hb dX3_fail_6 rfl (lv_at hl 0 rfl) ?_
        refine lv_ifnonnullN hx hb dX3_fail_7 ?_
        refine lv_iconst (v := (-1)) hx hb dX3_fail_10 (by decide) ?_
        exact W.iret (v := (-1)) hx hb hr (fun t ht hW => ⟨⟨(-1), st, rfl, (by simp only [fX3_fail, if_neg c_1, if_neg c_4, if_neg c_7]), ow_Bi ht hP⟩, hS.F ht⟩) hS.2.2 dX3_fail_11

theorem ln_X3_started_0 : (.fieldLinkNest RX3 117 "RecordLabels$Kind" "start" "I" "RecordLabels" : Cond) ∈ ow_nest := by decide +kernel
theorem li_X3_started_X0 : ∀ w ∈ u_ws RX0 TX0 7, w ∈ wsX3_started := by decide +kernel
def fX3_started (st : ow_St) (x1 : Int32) : Int32 := (if x1 = 0 then (st.1 1 0) else (if x1 = 1 then (st.1 1 1) else (if x1 = 2 then (st.1 1 2) else (-1))))
set_option maxHeartbeats 4000000 in
set_option maxRecDepth 100000 in
theorem kX3_started (l : Launch) (D : va_G) (ca : Nat → ClassId) (ad : ow_Ad) (A : Nat → Prop) (st : ow_St) (x1 : Int32) : Met l yX3_started wsX3_started ({ frames := 1, cells := 0, slots := 0, locals := 21 }) (va_Pc [.ref (ad 0 0), .int x1] (ow_W D ca ad A st)) (va_Qi (fun r st' => r = (fX3_started st x1) ∧ st' = st) (ow_B D ca ad) A) 0 0 A := by
  refine Met.ofW (cc := cX3_started) (maxL := 3) (ret := (some .int)) (by decide) rfl ?_
  intro p e s m args below meth c s₁ B hml hv
  obtain ⟨rfl, hP, hC⟩ := hv
  have hx := B.exec
  have hb := B.bytes
  have hr := B.returns
  have hts := atoms_spec (ws := wsX3_started) B.pre
  have hown : s.vm.findClass RX3 = some m.cls := findClass_of_methodNamed B.named
  have hlocks := B.notSynchronized
  have hS : va_S A s.heap s.heap [] := va_S.rf
  have hl := lv_entry ([.ref (ad 0 0), .int x1]) (n := 3) (Nat.le_of_ble_eq_true rfl)
  rw [lg_entry_eq]
  generalize (lg_sl ([.ref (ad 0 0), .int x1]) ++ List.replicate (3 - (lg_sl ([.ref (ad 0 0), .int x1])).length) Slot.unset).toArray = ls at hl ⊢
  have hl : lv_has ls 3 [(0, .ref (ad 0 0)), (1, .int x1)] := hl
  refine lv_aload_n hx hb dX3_started_0 rfl (lv_at hl 0 rfl) ?_
  refine lv_iload_n hx hb dX3_started_1 rfl (lv_at hl 1 rfl) ?_
  by_cases c_1 : x1 = 0
  · refine og_cqS (q := ad 1 0) (og_runV (C := RX3) (T := TX3) (N := 14) (g := 0) (i := 0) (As := [.int x1]) (rest := []) ⟨hx, hb, hml, hown, hts⟩ (kX3_kindNumbered l D ca ad A st x1) (cwV 1 hts gX3_started_X3_kindNumbered rfl rfl rfl (by decide +kernel) ⟨Nat.le_of_ble_eq_true rfl, Nat.le_of_ble_eq_true rfl⟩) hC hP hS (ow_q0_0) rfl rfl rfl hl.1 rfl (Nat.le_of_ble_eq_true rfl) dX3_started_2 ⟨Nat.zero_le _, Nat.zero_le _⟩) hS (by simp only [fX3_kindNumbered, if_pos c_1]) (fun H locs hP hS => ?_)
    refine lv_astore_n (lv' := [(2, .ref (ad 1 0)), (0, .ref (ad 0 0)), (1, .int x1)]) hx hb dX3_started_5 rfl hl (by decide) rfl (fun ls hl => ?_)
    refine lv_aload_n hx hb dX3_started_6 rfl (lv_at hl 0 rfl) ?_
    refine lv_ifnonnull (tgt := 14) hx hb dX3_started_7 (by decide) ?_
    refine lv_aload_n hx hb dX3_started_14 rfl (lv_at hl 0 rfl) ?_
    refine og_getN (C := RX0) (T := TX0) (N := 7) (g := 1) (i := 0) (v := .int (st.1 1 0)) hx hb hts li_X3_started_X0 hown hC hP (ow_q1_0) rfl rfl 5 (by decide) ln_X3_started_0 rfl rfl dX3_started_15 ?_
    exact W.iret (v := (st.1 1 0)) hx hb hr (fun t ht hW => ⟨⟨(st.1 1 0), st, rfl, ⟨(by simp only [fX3_started, if_pos c_1]), rfl⟩, ow_Bi ht hP⟩, hS.F ht⟩) hS.2.2 dX3_started_18
  · by_cases c_2 : x1 = 1
    · refine og_cqS (q := ad 1 1) (og_runV (C := RX3) (T := TX3) (N := 14) (g := 0) (i := 0) (As := [.int x1]) (rest := []) ⟨hx, hb, hml, hown, hts⟩ (kX3_kindNumbered l D ca ad A st x1) (cwV 1 hts gX3_started_X3_kindNumbered rfl rfl rfl (by decide +kernel) ⟨Nat.le_of_ble_eq_true rfl, Nat.le_of_ble_eq_true rfl⟩) hC hP hS (ow_q0_0) rfl rfl rfl hl.1 rfl (Nat.le_of_ble_eq_true rfl) dX3_started_2 ⟨Nat.zero_le _, Nat.zero_le _⟩) hS (by simp only [fX3_kindNumbered, if_neg c_1, if_pos c_2]) (fun H locs hP hS => ?_)
      refine lv_astore_n (lv' := [(2, .ref (ad 1 1)), (0, .ref (ad 0 0)), (1, .int x1)]) hx hb dX3_started_5 rfl hl (by decide) rfl (fun ls hl => ?_)
      refine lv_aload_n hx hb dX3_started_6 rfl (lv_at hl 0 rfl) ?_
      refine lv_ifnonnull (tgt := 14) hx hb dX3_started_7 (by decide) ?_
      refine lv_aload_n hx hb dX3_started_14 rfl (lv_at hl 0 rfl) ?_
      refine og_getN (C := RX0) (T := TX0) (N := 7) (g := 1) (i := 1) (v := .int (st.1 1 1)) hx hb hts li_X3_started_X0 hown hC hP (ow_q1_1) rfl rfl 5 (by decide) ln_X3_started_0 rfl rfl dX3_started_15 ?_
      exact W.iret (v := (st.1 1 1)) hx hb hr (fun t ht hW => ⟨⟨(st.1 1 1), st, rfl, ⟨(by simp only [fX3_started, if_neg c_1, if_pos c_2]), rfl⟩, ow_Bi ht hP⟩, hS.F ht⟩) hS.2.2 dX3_started_18
    · by_cases c_3 : x1 = 2
      · refine og_cqS (q := ad 1 2) (og_runV (C := RX3) (T := TX3) (N := 14) (g := 0) (i := 0) (As := [.int x1]) (rest := []) ⟨hx, hb, hml, hown, hts⟩ (kX3_kindNumbered l D ca ad A st x1) (cwV 1 hts gX3_started_X3_kindNumbered rfl rfl rfl (by decide +kernel) ⟨Nat.le_of_ble_eq_true rfl, Nat.le_of_ble_eq_true rfl⟩) hC hP hS (ow_q0_0) rfl rfl rfl hl.1 rfl (Nat.le_of_ble_eq_true rfl) dX3_started_2 ⟨Nat.zero_le _, Nat.zero_le _⟩) hS (by simp only [fX3_kindNumbered, if_neg c_1, if_neg c_2, if_pos c_3]) (fun H locs hP hS => ?_)
        refine lv_astore_n (lv' := [(2, .ref (ad 1 2)), (0, .ref (ad 0 0)), (1, .int x1)]) hx hb dX3_started_5 rfl hl (by decide) rfl (fun ls hl => ?_)
        refine lv_aload_n hx hb dX3_started_6 rfl (lv_at hl 0 rfl) ?_
        refine lv_ifnonnull (tgt := 14) hx hb dX3_started_7 (by decide) ?_
        refine lv_aload_n hx hb dX3_started_14 rfl (lv_at hl 0 rfl) ?_
        refine og_getN (C := RX0) (T := TX0) (N := 7) (g := 1) (i := 2) (v := .int (st.1 1 2)) hx hb hts li_X3_started_X0 hown hC hP (ow_q1_2) rfl rfl 5 (by decide) ln_X3_started_0 rfl rfl dX3_started_15 ?_
        exact W.iret (v := (st.1 1 2)) hx hb hr (fun t ht hW => ⟨⟨(st.1 1 2), st, rfl, ⟨(by simp only [fX3_started, if_neg c_1, if_neg c_2, if_pos c_3]), rfl⟩, ow_Bi ht hP⟩, hS.F ht⟩) hS.2.2 dX3_started_18
      · refine og_cqN (og_runV (C := RX3) (T := TX3) (N := 14) (g := 0) (i := 0) (As := [.int x1]) (rest := []) ⟨hx, hb, hml, hown, hts⟩ (kX3_kindNumbered l D ca ad A st x1) (cwV 1 hts gX3_started_X3_kindNumbered rfl rfl rfl (by decide +kernel) ⟨Nat.le_of_ble_eq_true rfl, Nat.le_of_ble_eq_true rfl⟩) hC hP hS (ow_q0_0) rfl rfl rfl hl.1 rfl (Nat.le_of_ble_eq_true rfl) dX3_started_2 ⟨Nat.zero_le _, Nat.zero_le _⟩) hS (by simp only [fX3_kindNumbered, if_neg c_1, if_neg c_2, if_neg c_3]) (fun H locs hP hS => ?_)
        refine lv_astore_nN (lv' := [(2, .null), (0, .ref (ad 0 0)), (1, .int x1)]) hx hb dX3_started_5 rfl hl (by decide) rfl (fun ls hl => ?_)
        refine lv_aload_nN hx hb dX3_started_6 rfl (lv_at hl 0 rfl) ?_
        refine lv_ifnonnullN hx hb dX3_started_7 ?_
        refine lv_iconst (v := (-1)) hx hb dX3_started_10 (by decide) ?_
        refine lv_goto (tgt := 18) hx hb dX3_started_11 (by decide) ?_
        exact W.iret (v := (-1)) hx hb hr (fun t ht hW => ⟨⟨(-1), st, rfl, ⟨(by simp only [fX3_started, if_neg c_1, if_neg c_2, if_neg c_3]), rfl⟩, ow_Bi ht hP⟩, hS.F ht⟩) hS.2.2 dX3_started_18

theorem ln_X3_clear_0 : (.methodLinkNest RX3 132 yX1_size "RecordLabels" : Cond) ∈ ow_nest := by decide +kernel
theorem lk_X3_clear_1 : (.initialized RX1 : Cond) ∈ wsX3_clear := by decide +kernel
theorem lk_X3_clear_2 : (.instanceMethod yX1_size : Cond) ∈ wsX3_clear := by decide +kernel
theorem lk_X3_clear_3 : (.selects RX1 yX1_size yX1_size : Cond) ∈ wsX3_clear := by decide +kernel
theorem ln_X3_clear_4 : (.methodLinkNest RX3 136 yX1_become "RecordLabels" : Cond) ∈ ow_nest := by decide +kernel
theorem lk_X3_clear_5 : (.instanceMethod yX1_become : Cond) ∈ wsX3_clear := by decide +kernel
theorem lk_X3_clear_6 : (.selects RX1 yX1_become yX1_become : Cond) ∈ wsX3_clear := by decide +kernel
def fX3_clear (st : ow_St) (x1 x2 : Int32) : Int32 × ow_St := (if x1 < 0 ∨ 10 ≤ x1 then (if x2 = 0 then ((-1), st) else (if x2 = 1 then ((-1), st) else (if x2 = 2 then ((-1), st) else ((-1), st)))) else (if x2 = 0 then (let st6 := (fX1_become st x1.toNatClampNeg 0 0); ((fX1_size st x1.toNatClampNeg), st6)) else (if x2 = 1 then (let st8 := (fX1_become st x1.toNatClampNeg 1 0); ((fX1_size st x1.toNatClampNeg), st8)) else (if x2 = 2 then (let st10 := (fX1_become st x1.toNatClampNeg 2 0); ((fX1_size st x1.toNatClampNeg), st10)) else ((-1), st)))))
set_option maxHeartbeats 4000000 in
set_option maxRecDepth 100000 in
theorem kX3_clear (l : Launch) (D : va_G) (ca : Nat → ClassId) (ad : ow_Ad) (A : Nat → Prop) (st : ow_St) (x1 : Int32) (x2 : Int32) : Met l yX3_clear wsX3_clear ({ frames := 2, cells := 0, slots := 0, locals := 40 }) (va_Pc [.ref (ad 0 0), .int x1, .int x2] (ow_W D ca ad A st)) (va_Qi (fun r st' => (r, st') = (fX3_clear st x1 x2)) (ow_B D ca ad) A) 0 0 A := by
  refine Met.ofW (cc := cX3_clear) (maxL := 6) (ret := (some .int)) (by decide) rfl ?_
  intro p e s m args below meth c s₁ B hml hv
  obtain ⟨rfl, hP, hC⟩ := hv
  have hx := B.exec
  have hb := B.bytes
  have hr := B.returns
  have hts := atoms_spec (ws := wsX3_clear) B.pre
  have hown : s.vm.findClass RX3 = some m.cls := findClass_of_methodNamed B.named
  have hlocks := B.notSynchronized
  have hS : va_S A s.heap s.heap [] := va_S.rf
  have hl := lv_entry ([.ref (ad 0 0), .int x1, .int x2]) (n := 6) (Nat.le_of_ble_eq_true rfl)
  rw [lg_entry_eq]
  generalize (lg_sl ([.ref (ad 0 0), .int x1, .int x2]) ++ List.replicate (6 - (lg_sl ([.ref (ad 0 0), .int x1, .int x2])).length) Slot.unset).toArray = ls at hl ⊢
  have hl : lv_has ls 6 [(0, .ref (ad 0 0)), (1, .int x1), (2, .int x2)] := hl
  refine lv_aload_n hx hb dX3_clear_0 rfl (lv_at hl 0 rfl) ?_
  refine lv_iload_n hx hb dX3_clear_1 rfl (lv_at hl 1 rfl) ?_
  by_cases c_1 : x1 < 0 ∨ 10 ≤ x1
  · refine og_cqN (og_runV (C := RX3) (T := TX3) (N := 14) (g := 0) (i := 0) (As := [.int x1]) (rest := []) ⟨hx, hb, hml, hown, hts⟩ (kX3_setNumbered l D ca ad A st x1) (cwV 1 hts gX3_clear_X3_setNumbered rfl rfl rfl (by decide +kernel) ⟨Nat.le_of_ble_eq_true rfl, Nat.le_of_ble_eq_true rfl⟩) hC hP hS (ow_q0_0) rfl rfl rfl hl.1 rfl (Nat.le_of_ble_eq_true rfl) dX3_clear_2 ⟨Nat.zero_le _, Nat.zero_le _⟩) hS (setN_none c_1) (fun H locs hP hS => ?_)
    refine lv_astore_nN (lv' := [(3, .null), (0, .ref (ad 0 0)), (1, .int x1), (2, .int x2)]) hx hb dX3_clear_5 rfl hl (by decide) rfl (fun ls hl => ?_)
    refine lv_aload_n hx hb dX3_clear_6 rfl (lv_at hl 1 rfl) ?_
    refine lv_iload_n hx hb dX3_clear_7 rfl (lv_at hl 3 rfl) ?_
    by_cases c_2 : x2 = 0
    · refine og_cqS (q := ad 1 0) (og_runV (C := RX3) (T := TX3) (N := 14) (g := 0) (i := 0) (As := [.int x2]) (rest := []) ⟨hx, hb, hml, hown, hts⟩ (kX3_kindNumbered l D ca ad A st x2) (cwV 1 hts gX3_clear_X3_kindNumbered rfl rfl rfl (by decide +kernel) ⟨Nat.le_of_ble_eq_true rfl, Nat.le_of_ble_eq_true rfl⟩) hC hP hS (ow_q0_0) rfl rfl rfl hl.1 rfl (Nat.le_of_ble_eq_true rfl) dX3_clear_8 ⟨Nat.zero_le _, Nat.zero_le _⟩) hS (by simp only [fX3_kindNumbered, if_pos c_2]) (fun H locs hP hS => ?_)
      refine lv_astore (lv' := [(4, .ref (ad 1 0)), (3, .null), (0, .ref (ad 0 0)), (1, .int x1), (2, .int x2)]) hx hb dX3_clear_11 hl (by decide) rfl (fun ls hl => ?_)
      refine lv_aload_nN hx hb dX3_clear_13 rfl (lv_at hl 1 rfl) ?_
      refine lv_ifnullN (tgt := 22) hx hb dX3_clear_14 (by decide) ?_
      refine lv_iconst (v := (-1)) hx hb dX3_clear_22 (by decide) ?_
      exact W.iret (v := (-1)) hx hb hr (fun t ht hW => ⟨⟨(-1), st, rfl, (by simp only [fX3_clear, if_pos c_1, if_pos c_2]), ow_Bi ht hP⟩, hS.F ht⟩) hS.2.2 dX3_clear_23
    · by_cases c_3 : x2 = 1
      · refine og_cqS (q := ad 1 1) (og_runV (C := RX3) (T := TX3) (N := 14) (g := 0) (i := 0) (As := [.int x2]) (rest := []) ⟨hx, hb, hml, hown, hts⟩ (kX3_kindNumbered l D ca ad A st x2) (cwV 1 hts gX3_clear_X3_kindNumbered rfl rfl rfl (by decide +kernel) ⟨Nat.le_of_ble_eq_true rfl, Nat.le_of_ble_eq_true rfl⟩) hC hP hS (ow_q0_0) rfl rfl rfl hl.1 rfl (Nat.le_of_ble_eq_true rfl) dX3_clear_8 ⟨Nat.zero_le _, Nat.zero_le _⟩) hS (by simp only [fX3_kindNumbered, if_neg c_2, if_pos c_3]) (fun H locs hP hS => ?_)
        refine lv_astore (lv' := [(4, .ref (ad 1 1)), (3, .null), (0, .ref (ad 0 0)), (1, .int x1), (2, .int x2)]) hx hb dX3_clear_11 hl (by decide) rfl (fun ls hl => ?_)
        refine lv_aload_nN hx hb dX3_clear_13 rfl (lv_at hl 1 rfl) ?_
        refine lv_ifnullN (tgt := 22) hx hb dX3_clear_14 (by decide) ?_
        refine lv_iconst (v := (-1)) hx hb dX3_clear_22 (by decide) ?_
        exact W.iret (v := (-1)) hx hb hr (fun t ht hW => ⟨⟨(-1), st, rfl, (by simp only [fX3_clear, if_pos c_1, if_neg c_2, if_pos c_3]), ow_Bi ht hP⟩, hS.F ht⟩) hS.2.2 dX3_clear_23
      · by_cases c_4 : x2 = 2
        · refine og_cqS (q := ad 1 2) (og_runV (C := RX3) (T := TX3) (N := 14) (g := 0) (i := 0) (As := [.int x2]) (rest := []) ⟨hx, hb, hml, hown, hts⟩ (kX3_kindNumbered l D ca ad A st x2) (cwV 1 hts gX3_clear_X3_kindNumbered rfl rfl rfl (by decide +kernel) ⟨Nat.le_of_ble_eq_true rfl, Nat.le_of_ble_eq_true rfl⟩) hC hP hS (ow_q0_0) rfl rfl rfl hl.1 rfl (Nat.le_of_ble_eq_true rfl) dX3_clear_8 ⟨Nat.zero_le _, Nat.zero_le _⟩) hS (by simp only [fX3_kindNumbered, if_neg c_2, if_neg c_3, if_pos c_4]) (fun H locs hP hS => ?_)
          refine lv_astore (lv' := [(4, .ref (ad 1 2)), (3, .null), (0, .ref (ad 0 0)), (1, .int x1), (2, .int x2)]) hx hb dX3_clear_11 hl (by decide) rfl (fun ls hl => ?_)
          refine lv_aload_nN hx hb dX3_clear_13 rfl (lv_at hl 1 rfl) ?_
          refine lv_ifnullN (tgt := 22) hx hb dX3_clear_14 (by decide) ?_
          refine lv_iconst (v := (-1)) hx hb dX3_clear_22 (by decide) ?_
          exact W.iret (v := (-1)) hx hb hr (fun t ht hW => ⟨⟨(-1), st, rfl, (by simp only [fX3_clear, if_pos c_1, if_neg c_2, if_neg c_3, if_pos c_4]), ow_Bi ht hP⟩, hS.F ht⟩) hS.2.2 dX3_clear_23
        · refine og_cqN (og_runV (C := RX3) (T := TX3) (N := 14) (g := 0) (i := 0) (As := [.int x2]) (rest := []) ⟨hx, hb, hml, hown, hts⟩ (kX3_kindNumbered l D ca ad A st x2) (cwV 1 hts gX3_clear_X3_kindNumbered rfl rfl rfl (by decide +kernel) ⟨Nat.le_of_ble_eq_true rfl, Nat.le_of_ble_eq_true rfl⟩) hC hP hS (ow_q0_0) rfl rfl rfl hl.1 rfl (Nat.le_of_ble_eq_true rfl) dX3_clear_8 ⟨Nat.zero_le _, Nat.zero_le _⟩) hS (by simp only [fX3_kindNumbered, if_neg c_2, if_neg c_3, if_neg c_4]) (fun H locs hP hS => ?_)
          refine lv_astoreN (lv' := [(4, .null), (3, .null), (0, .ref (ad 0 0)), (1, .int x1), (2, .int x2)]) hx hb dX3_clear_11 hl (by decide) rfl (fun ls hl => ?_)
          refine lv_aload_nN hx hb dX3_clear_13 rfl (lv_at hl 1 rfl) ?_
          refine lv_ifnullN (tgt := 22) hx hb dX3_clear_14 (by decide) ?_
          refine lv_iconst (v := (-1)) hx hb dX3_clear_22 (by decide) ?_
          exact W.iret (v := (-1)) hx hb hr (fun t ht hW => ⟨⟨(-1), st, rfl, (by simp only [fX3_clear, if_pos c_1, if_neg c_2, if_neg c_3, if_neg c_4]), ow_Bi ht hP⟩, hS.F ht⟩) hS.2.2 dX3_clear_23
  · refine og_cqS (q := ad 5 x1.toNatClampNeg) (og_runV (C := RX3) (T := TX3) (N := 14) (g := 0) (i := 0) (As := [.int x1]) (rest := []) ⟨hx, hb, hml, hown, hts⟩ (kX3_setNumbered l D ca ad A st x1) (cwV 1 hts gX3_clear_X3_setNumbered rfl rfl rfl (by decide +kernel) ⟨Nat.le_of_ble_eq_true rfl, Nat.le_of_ble_eq_true rfl⟩) hC hP hS (ow_q0_0) rfl rfl rfl hl.1 rfl (Nat.le_of_ble_eq_true rfl) dX3_clear_2 ⟨Nat.zero_le _, Nat.zero_le _⟩) hS (setN_some c_1) (fun H locs hP hS => ?_)
    refine lv_astore_n (lv' := [(3, .ref (ad 5 x1.toNatClampNeg)), (0, .ref (ad 0 0)), (1, .int x1), (2, .int x2)]) hx hb dX3_clear_5 rfl hl (by decide) rfl (fun ls hl => ?_)
    refine lv_aload_n hx hb dX3_clear_6 rfl (lv_at hl 1 rfl) ?_
    refine lv_iload_n hx hb dX3_clear_7 rfl (lv_at hl 3 rfl) ?_
    by_cases c_5 : x2 = 0
    · refine og_cqS (q := ad 1 0) (og_runV (C := RX3) (T := TX3) (N := 14) (g := 0) (i := 0) (As := [.int x2]) (rest := []) ⟨hx, hb, hml, hown, hts⟩ (kX3_kindNumbered l D ca ad A st x2) (cwV 1 hts gX3_clear_X3_kindNumbered rfl rfl rfl (by decide +kernel) ⟨Nat.le_of_ble_eq_true rfl, Nat.le_of_ble_eq_true rfl⟩) hC hP hS (ow_q0_0) rfl rfl rfl hl.1 rfl (Nat.le_of_ble_eq_true rfl) dX3_clear_8 ⟨Nat.zero_le _, Nat.zero_le _⟩) hS (by simp only [fX3_kindNumbered, if_pos c_5]) (fun H locs hP hS => ?_)
      refine lv_astore (lv' := [(4, .ref (ad 1 0)), (3, .ref (ad 5 x1.toNatClampNeg)), (0, .ref (ad 0 0)), (1, .int x1), (2, .int x2)]) hx hb dX3_clear_11 hl (by decide) rfl (fun ls hl => ?_)
      refine lv_aload_n hx hb dX3_clear_13 rfl (lv_at hl 1 rfl) ?_
      refine lv_ifnull hx hb dX3_clear_14 ?_
      refine lv_aload hx hb dX3_clear_17 (lv_at hl 0 rfl) ?_
      refine lv_ifnonnull (tgt := 24) hx hb dX3_clear_19 (by decide) ?_
      refine lv_aload_n hx hb dX3_clear_24 rfl (lv_at hl 1 rfl) ?_
      refine og_ciP (og_runVN (C := RX1) (T := TX1) (N := 2) (g := 5) (i := x1.toNatClampNeg) (As := []) (rest := []) ⟨hx, hb, hml, hown, hts⟩ (kX1_size l D ca ad A st x1.toNatClampNeg (setN_b c_1)) ⟨va_cnB 0 hts gX3_clear_X1_size_n132 rfl rfl rfl (hC.2.2.1 _ ln_X3_clear_0) (hts _ lk_X3_clear_1) (by decide +kernel) ⟨Nat.le_of_ble_eq_true rfl, Nat.le_of_ble_eq_true rfl⟩, (hts _ lk_X3_clear_2), (hts _ lk_X3_clear_3)⟩ hC hP hS (ow_m5 (setN_b c_1)) rfl rfl rfl hl.1 rfl (Nat.le_of_ble_eq_true rfl) dX3_clear_25 ⟨Nat.zero_le _, Nat.zero_le _⟩) hS (fun H locs hP hS => ?_)
      refine lv_istore (lv' := [(5, .int (fX1_size st x1.toNatClampNeg)), (4, .ref (ad 1 0)), (3, .ref (ad 5 x1.toNatClampNeg)), (0, .ref (ad 0 0)), (1, .int x1), (2, .int x2)]) hx hb dX3_clear_28 hl (by decide) rfl (fun ls hl => ?_)
      refine lv_aload_n hx hb dX3_clear_30 rfl (lv_at hl 2 rfl) ?_
      refine lv_aload hx hb dX3_clear_31 (lv_at hl 1 rfl) ?_
      refine lv_iconst (v := 0) hx hb dX3_clear_33 (by decide) ?_
      refine og_cvW (og_runVN (C := RX1) (T := TX1) (N := 2) (g := 5) (i := x1.toNatClampNeg) (As := [.ref (ad 1 0), .int 0]) (rest := []) ⟨hx, hb, hml, hown, hts⟩ (kX1_become l D ca ad A st x1.toNatClampNeg (setN_b c_1) 0 0) ⟨va_cnB 2 hts gX3_clear_X1_become_n136 rfl rfl rfl (hC.2.2.1 _ ln_X3_clear_4) (hts _ lk_X3_clear_1) (by decide +kernel) ⟨Nat.le_of_ble_eq_true rfl, Nat.le_of_ble_eq_true rfl⟩, (hts _ lk_X3_clear_5), (hts _ lk_X3_clear_6)⟩ hC hP hS (ow_m5 (setN_b c_1)) rfl rfl rfl hl.1 rfl (Nat.le_of_ble_eq_true rfl) dX3_clear_34 ⟨Nat.zero_le _, Nat.zero_le _⟩) hS (fun H locs hP hS => ?_)
      obtain ⟨st6, e6⟩ : ∃ z, z = (fX1_become st x1.toNatClampNeg 0 0) := ⟨_, rfl⟩
      rw [← e6] at hP
      refine lv_iload hx hb dX3_clear_37 (lv_at hl 0 rfl) ?_
      exact W.iret (v := (fX1_size st x1.toNatClampNeg)) hx hb hr (fun t ht hW => ⟨⟨(fX1_size st x1.toNatClampNeg), st6, rfl, (by subst e6; simp only [fX3_clear, if_neg c_1, if_pos c_5]), ow_Bi ht hP⟩, hS.F ht⟩) hS.2.2 dX3_clear_39
    · by_cases c_7 : x2 = 1
      · refine og_cqS (q := ad 1 1) (og_runV (C := RX3) (T := TX3) (N := 14) (g := 0) (i := 0) (As := [.int x2]) (rest := []) ⟨hx, hb, hml, hown, hts⟩ (kX3_kindNumbered l D ca ad A st x2) (cwV 1 hts gX3_clear_X3_kindNumbered rfl rfl rfl (by decide +kernel) ⟨Nat.le_of_ble_eq_true rfl, Nat.le_of_ble_eq_true rfl⟩) hC hP hS (ow_q0_0) rfl rfl rfl hl.1 rfl (Nat.le_of_ble_eq_true rfl) dX3_clear_8 ⟨Nat.zero_le _, Nat.zero_le _⟩) hS (by simp only [fX3_kindNumbered, if_neg c_5, if_pos c_7]) (fun H locs hP hS => ?_)
        refine lv_astore (lv' := [(4, .ref (ad 1 1)), (3, .ref (ad 5 x1.toNatClampNeg)), (0, .ref (ad 0 0)), (1, .int x1), (2, .int x2)]) hx hb dX3_clear_11 hl (by decide) rfl (fun ls hl => ?_)
        refine lv_aload_n hx hb dX3_clear_13 rfl (lv_at hl 1 rfl) ?_
        refine lv_ifnull hx hb dX3_clear_14 ?_
        refine lv_aload hx hb dX3_clear_17 (lv_at hl 0 rfl) ?_
        refine lv_ifnonnull (tgt := 24) hx hb dX3_clear_19 (by decide) ?_
        refine lv_aload_n hx hb dX3_clear_24 rfl (lv_at hl 1 rfl) ?_
        refine og_ciP (og_runVN (C := RX1) (T := TX1) (N := 2) (g := 5) (i := x1.toNatClampNeg) (As := []) (rest := []) ⟨hx, hb, hml, hown, hts⟩ (kX1_size l D ca ad A st x1.toNatClampNeg (setN_b c_1)) ⟨va_cnB 0 hts gX3_clear_X1_size_n132 rfl rfl rfl (hC.2.2.1 _ ln_X3_clear_0) (hts _ lk_X3_clear_1) (by decide +kernel) ⟨Nat.le_of_ble_eq_true rfl, Nat.le_of_ble_eq_true rfl⟩, (hts _ lk_X3_clear_2), (hts _ lk_X3_clear_3)⟩ hC hP hS (ow_m5 (setN_b c_1)) rfl rfl rfl hl.1 rfl (Nat.le_of_ble_eq_true rfl) dX3_clear_25 ⟨Nat.zero_le _, Nat.zero_le _⟩) hS (fun H locs hP hS => ?_)
        refine lv_istore (lv' := [(5, .int (fX1_size st x1.toNatClampNeg)), (4, .ref (ad 1 1)), (3, .ref (ad 5 x1.toNatClampNeg)), (0, .ref (ad 0 0)), (1, .int x1), (2, .int x2)]) hx hb dX3_clear_28 hl (by decide) rfl (fun ls hl => ?_)
        refine lv_aload_n hx hb dX3_clear_30 rfl (lv_at hl 2 rfl) ?_
        refine lv_aload hx hb dX3_clear_31 (lv_at hl 1 rfl) ?_
        refine lv_iconst (v := 0) hx hb dX3_clear_33 (by decide) ?_
        refine og_cvW (og_runVN (C := RX1) (T := TX1) (N := 2) (g := 5) (i := x1.toNatClampNeg) (As := [.ref (ad 1 1), .int 0]) (rest := []) ⟨hx, hb, hml, hown, hts⟩ (kX1_become l D ca ad A st x1.toNatClampNeg (setN_b c_1) 1 0) ⟨va_cnB 2 hts gX3_clear_X1_become_n136 rfl rfl rfl (hC.2.2.1 _ ln_X3_clear_4) (hts _ lk_X3_clear_1) (by decide +kernel) ⟨Nat.le_of_ble_eq_true rfl, Nat.le_of_ble_eq_true rfl⟩, (hts _ lk_X3_clear_5), (hts _ lk_X3_clear_6)⟩ hC hP hS (ow_m5 (setN_b c_1)) rfl rfl rfl hl.1 rfl (Nat.le_of_ble_eq_true rfl) dX3_clear_34 ⟨Nat.zero_le _, Nat.zero_le _⟩) hS (fun H locs hP hS => ?_)
        obtain ⟨st8, e8⟩ : ∃ z, z = (fX1_become st x1.toNatClampNeg 1 0) := ⟨_, rfl⟩
        rw [← e8] at hP
        refine lv_iload hx hb dX3_clear_37 (lv_at hl 0 rfl) ?_
        exact W.iret (v := (fX1_size st x1.toNatClampNeg)) hx hb hr (fun t ht hW => ⟨⟨(fX1_size st x1.toNatClampNeg), st8, rfl, (by subst e8; simp only [fX3_clear, if_neg c_1, if_neg c_5, if_pos c_7]), ow_Bi ht hP⟩, hS.F ht⟩) hS.2.2 dX3_clear_39
      · by_cases c_9 : x2 = 2
        · refine og_cqS (q := ad 1 2) (og_runV (C := RX3) (T := TX3) (N := 14) (g := 0) (i := 0) (As := [.int x2]) (rest := []) ⟨hx, hb, hml, hown, hts⟩ (kX3_kindNumbered l D ca ad A st x2) (cwV 1 hts gX3_clear_X3_kindNumbered rfl rfl rfl (by decide +kernel) ⟨Nat.le_of_ble_eq_true rfl, Nat.le_of_ble_eq_true rfl⟩) hC hP hS (ow_q0_0) rfl rfl rfl hl.1 rfl (Nat.le_of_ble_eq_true rfl) dX3_clear_8 ⟨Nat.zero_le _, Nat.zero_le _⟩) hS (by simp only [fX3_kindNumbered, if_neg c_5, if_neg c_7, if_pos c_9]) (fun H locs hP hS => ?_)
          refine lv_astore (lv' := [(4, .ref (ad 1 2)), (3, .ref (ad 5 x1.toNatClampNeg)), (0, .ref (ad 0 0)), (1, .int x1), (2, .int x2)]) hx hb dX3_clear_11 hl (by decide) rfl (fun ls hl => ?_)
          refine lv_aload_n hx hb dX3_clear_13 rfl (lv_at hl 1 rfl) ?_
          refine lv_ifnull hx hb dX3_clear_14 ?_
          refine lv_aload hx hb dX3_clear_17 (lv_at hl 0 rfl) ?_
          refine lv_ifnonnull (tgt := 24) hx hb dX3_clear_19 (by decide) ?_
          refine lv_aload_n hx hb dX3_clear_24 rfl (lv_at hl 1 rfl) ?_
          refine og_ciP (og_runVN (C := RX1) (T := TX1) (N := 2) (g := 5) (i := x1.toNatClampNeg) (As := []) (rest := []) ⟨hx, hb, hml, hown, hts⟩ (kX1_size l D ca ad A st x1.toNatClampNeg (setN_b c_1)) ⟨va_cnB 0 hts gX3_clear_X1_size_n132 rfl rfl rfl (hC.2.2.1 _ ln_X3_clear_0) (hts _ lk_X3_clear_1) (by decide +kernel) ⟨Nat.le_of_ble_eq_true rfl, Nat.le_of_ble_eq_true rfl⟩, (hts _ lk_X3_clear_2), (hts _ lk_X3_clear_3)⟩ hC hP hS (ow_m5 (setN_b c_1)) rfl rfl rfl hl.1 rfl (Nat.le_of_ble_eq_true rfl) dX3_clear_25 ⟨Nat.zero_le _, Nat.zero_le _⟩) hS (fun H locs hP hS => ?_)
          refine lv_istore (lv' := [(5, .int (fX1_size st x1.toNatClampNeg)), (4, .ref (ad 1 2)), (3, .ref (ad 5 x1.toNatClampNeg)), (0, .ref (ad 0 0)), (1, .int x1), (2, .int x2)]) hx hb dX3_clear_28 hl (by decide) rfl (fun ls hl => ?_)
          refine lv_aload_n hx hb dX3_clear_30 rfl (lv_at hl 2 rfl) ?_
          refine lv_aload hx hb dX3_clear_31 (lv_at hl 1 rfl) ?_
          refine lv_iconst (v := 0) hx hb dX3_clear_33 (by decide) ?_
          refine og_cvW (og_runVN (C := RX1) (T := TX1) (N := 2) (g := 5) (i := x1.toNatClampNeg) (As := [.ref (ad 1 2), .int 0]) (rest := []) ⟨hx, hb, hml, hown, hts⟩ (kX1_become l D ca ad A st x1.toNatClampNeg (setN_b c_1) 2 0) ⟨va_cnB 2 hts gX3_clear_X1_become_n136 rfl rfl rfl (hC.2.2.1 _ ln_X3_clear_4) (hts _ lk_X3_clear_1) (by decide +kernel) ⟨Nat.le_of_ble_eq_true rfl, Nat.le_of_ble_eq_true rfl⟩, (hts _ lk_X3_clear_5), (hts _ lk_X3_clear_6)⟩ hC hP hS (ow_m5 (setN_b c_1)) rfl rfl rfl hl.1 rfl (Nat.le_of_ble_eq_true rfl) dX3_clear_34 ⟨Nat.zero_le _, Nat.zero_le _⟩) hS (fun H locs hP hS => ?_)
          obtain ⟨st10, e10⟩ : ∃ z, z = (fX1_become st x1.toNatClampNeg 2 0) := ⟨_, rfl⟩
          rw [← e10] at hP
          refine lv_iload hx hb dX3_clear_37 (lv_at hl 0 rfl) ?_
          exact W.iret (v := (fX1_size st x1.toNatClampNeg)) hx hb hr (fun t ht hW => ⟨⟨(fX1_size st x1.toNatClampNeg), st10, rfl, (by subst e10; simp only [fX3_clear, if_neg c_1, if_neg c_5, if_neg c_7, if_pos c_9]), ow_Bi ht hP⟩, hS.F ht⟩) hS.2.2 dX3_clear_39
        · refine og_cqN (og_runV (C := RX3) (T := TX3) (N := 14) (g := 0) (i := 0) (As := [.int x2]) (rest := []) ⟨hx, hb, hml, hown, hts⟩ (kX3_kindNumbered l D ca ad A st x2) (cwV 1 hts gX3_clear_X3_kindNumbered rfl rfl rfl (by decide +kernel) ⟨Nat.le_of_ble_eq_true rfl, Nat.le_of_ble_eq_true rfl⟩) hC hP hS (ow_q0_0) rfl rfl rfl hl.1 rfl (Nat.le_of_ble_eq_true rfl) dX3_clear_8 ⟨Nat.zero_le _, Nat.zero_le _⟩) hS (by simp only [fX3_kindNumbered, if_neg c_5, if_neg c_7, if_neg c_9]) (fun H locs hP hS => ?_)
          refine lv_astoreN (lv' := [(4, .null), (3, .ref (ad 5 x1.toNatClampNeg)), (0, .ref (ad 0 0)), (1, .int x1), (2, .int x2)]) hx hb dX3_clear_11 hl (by decide) rfl (fun ls hl => ?_)
          refine lv_aload_n hx hb dX3_clear_13 rfl (lv_at hl 1 rfl) ?_
          refine lv_ifnull hx hb dX3_clear_14 ?_
          refine lv_aloadN hx hb dX3_clear_17 (lv_at hl 0 rfl) ?_
          refine lv_ifnonnullN hx hb dX3_clear_19 ?_
          refine lv_iconst (v := (-1)) hx hb dX3_clear_22 (by decide) ?_
          exact W.iret (v := (-1)) hx hb hr (fun t ht hW => ⟨⟨(-1), st, rfl, (by simp only [fX3_clear, if_neg c_1, if_neg c_5, if_neg c_7, if_neg c_9]), ow_Bi ht hP⟩, hS.F ht⟩) hS.2.2 dX3_clear_23

theorem ln_X3_put_0 : (.fieldLinkNest RX3 140 "RecordLabels$LabelSet" "kind" "LRecordLabels$Kind;" "RecordLabels" : Cond) ∈ ow_nest := by decide +kernel
theorem li_X3_put_X1 : ∀ w ∈ u_ws RX1 TX1 2, w ∈ wsX3_put := by decide +kernel
theorem ln_X3_put_2 : (.methodLinkNest RX3 101 yX0_has "RecordLabels" : Cond) ∈ ow_nest := by decide +kernel
theorem lk_X3_put_3 : (.initialized RX0 : Cond) ∈ wsX3_put := by decide +kernel
theorem lk_X3_put_4 : (.instanceMethod yX0_has : Cond) ∈ wsX3_put := by decide +kernel
theorem lk_X3_put_5 : (.selects RX0 yX0_has yX0_has : Cond) ∈ wsX3_put := by decide +kernel
theorem ln_X3_put_6 : (.methodLinkNest RX3 94 yX0_constantOf "RecordLabels" : Cond) ∈ ow_nest := by decide +kernel
theorem lk_X3_put_7 : (.instanceMethod yX0_constantOf : Cond) ∈ wsX3_put := by decide +kernel
theorem lk_X3_put_8 : (.selects RX0 yX0_constantOf yX0_constantOf : Cond) ∈ wsX3_put := by decide +kernel
theorem ln_X3_put_9 : (.methodLinkNest RX3 143 yX1_holds "RecordLabels" : Cond) ∈ ow_nest := by decide +kernel
theorem lk_X3_put_10 : (.initialized RX1 : Cond) ∈ wsX3_put := by decide +kernel
theorem lk_X3_put_11 : (.instanceMethod yX1_holds : Cond) ∈ wsX3_put := by decide +kernel
theorem lk_X3_put_12 : (.selects RX1 yX1_holds yX1_holds : Cond) ∈ wsX3_put := by decide +kernel
theorem ln_X3_put_13 : (.fieldLinkNest RX3 146 "RecordLabels$LabelSet" "members" "I" "RecordLabels" : Cond) ∈ ow_nest := by decide +kernel
def fX3_put (st : ow_St) (x1 x2 x3 : Int32) : Int32 × ow_St := (if x1 < 0 ∨ 10 ≤ x1 then ((-1), st) else (if (fX0_has st (st.2.2 (x1.toNatClampNeg + 1)) x2) = 0 then ((-1), st) else (if x3 = 0 then (let st4 := (ow_si st 3 x1.toNatClampNeg ((st.1 3 x1.toNatClampNeg) &&& ((1 <<< ((fX0_constantOf st (st.2.2 (x1.toNatClampNeg + 1)) x2) &&& 31)) ^^^ (-1)))); ((fX3_oneIf st (fX1_holds st x1.toNatClampNeg (fX0_constantOf st (st.2.2 (x1.toNatClampNeg + 1)) x2))), st4)) else (let st5 := (ow_si st 3 x1.toNatClampNeg ((st.1 3 x1.toNatClampNeg) ||| (1 <<< ((fX0_constantOf st (st.2.2 (x1.toNatClampNeg + 1)) x2) &&& 31)))); ((fX3_oneIf st (fX1_holds st x1.toNatClampNeg (fX0_constantOf st (st.2.2 (x1.toNatClampNeg + 1)) x2))), st5)))))
set_option maxHeartbeats 4000000 in
set_option maxRecDepth 100000 in
theorem kX3_put (l : Launch) (D : va_G) (ca : Nat → ClassId) (ad : ow_Ad) (A : Nat → Prop) (st : ow_St) (x1 : Int32) (x2 : Int32) (x3 : Int32) (hsk : iv_sk st) : Met l yX3_put wsX3_put ({ frames := 2, cells := 0, slots := 0, locals := 42 }) (va_Pc [.ref (ad 0 0), .int x1, .int x2, .int x3] (ow_W D ca ad A st)) (va_Qi (fun r st' => (r, st') = (fX3_put st x1 x2 x3)) (ow_B D ca ad) A) 0 0 A := by
  refine Met.ofW (cc := cX3_put) (maxL := 8) (ret := (some .int)) (by decide) rfl ?_
  intro p e s m args below meth c s₁ B hml hv
  obtain ⟨rfl, hP, hC⟩ := hv
  have hx := B.exec
  have hb := B.bytes
  have hr := B.returns
  have hts := atoms_spec (ws := wsX3_put) B.pre
  have hown : s.vm.findClass RX3 = some m.cls := findClass_of_methodNamed B.named
  have hlocks := B.notSynchronized
  have hS : va_S A s.heap s.heap [] := va_S.rf
  have hl := lv_entry ([.ref (ad 0 0), .int x1, .int x2, .int x3]) (n := 8) (Nat.le_of_ble_eq_true rfl)
  rw [lg_entry_eq]
  generalize (lg_sl ([.ref (ad 0 0), .int x1, .int x2, .int x3]) ++ List.replicate (8 - (lg_sl ([.ref (ad 0 0), .int x1, .int x2, .int x3])).length) Slot.unset).toArray = ls at hl ⊢
  have hl : lv_has ls 8 [(0, .ref (ad 0 0)), (1, .int x1), (2, .int x2), (3, .int x3)] := hl
  refine lv_aload_n hx hb dX3_put_0 rfl (lv_at hl 0 rfl) ?_
  refine lv_iload_n hx hb dX3_put_1 rfl (lv_at hl 1 rfl) ?_
  by_cases c_1 : x1 < 0 ∨ 10 ≤ x1
  · refine og_cqN (og_runV (C := RX3) (T := TX3) (N := 14) (g := 0) (i := 0) (As := [.int x1]) (rest := []) ⟨hx, hb, hml, hown, hts⟩ (kX3_setNumbered l D ca ad A st x1) (cwV 1 hts gX3_put_X3_setNumbered rfl rfl rfl (by decide +kernel) ⟨Nat.le_of_ble_eq_true rfl, Nat.le_of_ble_eq_true rfl⟩) hC hP hS (ow_q0_0) rfl rfl rfl hl.1 rfl (Nat.le_of_ble_eq_true rfl) dX3_put_2 ⟨Nat.zero_le _, Nat.zero_le _⟩) hS (setN_none c_1) (fun H locs hP hS => ?_)
    refine lv_astoreN (lv' := [(4, .null), (0, .ref (ad 0 0)), (1, .int x1), (2, .int x2), (3, .int x3)]) hx hb dX3_put_5 hl (by decide) rfl (fun ls hl => ?_)
    refine lv_aloadN hx hb dX3_put_7 (lv_at hl 0 rfl) ?_
    refine lv_ifnullN (tgt := 24) hx hb dX3_put_9 (by decide) ?_
    refine lv_iconst (v := (-1)) hx hb dX3_put_24 (by decide) ?_
    exact W.iret (v := (-1)) hx hb hr (fun t ht hW => ⟨⟨(-1), st, rfl, (by simp only [fX3_put, if_pos c_1]), ow_Bi ht hP⟩, hS.F ht⟩) hS.2.2 dX3_put_25
  · refine og_cqS (q := ad 5 x1.toNatClampNeg) (og_runV (C := RX3) (T := TX3) (N := 14) (g := 0) (i := 0) (As := [.int x1]) (rest := []) ⟨hx, hb, hml, hown, hts⟩ (kX3_setNumbered l D ca ad A st x1) (cwV 1 hts gX3_put_X3_setNumbered rfl rfl rfl (by decide +kernel) ⟨Nat.le_of_ble_eq_true rfl, Nat.le_of_ble_eq_true rfl⟩) hC hP hS (ow_q0_0) rfl rfl rfl hl.1 rfl (Nat.le_of_ble_eq_true rfl) dX3_put_2 ⟨Nat.zero_le _, Nat.zero_le _⟩) hS (setN_some c_1) (fun H locs hP hS => ?_)
    refine lv_astore (lv' := [(4, .ref (ad 5 x1.toNatClampNeg)), (0, .ref (ad 0 0)), (1, .int x1), (2, .int x2), (3, .int x3)]) hx hb dX3_put_5 hl (by decide) rfl (fun ls hl => ?_)
    refine lv_aload hx hb dX3_put_7 (lv_at hl 0 rfl) ?_
    refine lv_ifnull hx hb dX3_put_9 ?_
    refine lv_aload hx hb dX3_put_12 (lv_at hl 0 rfl) ?_
    refine og_getN (C := RX1) (T := TX1) (N := 2) (g := 5) (i := x1.toNatClampNeg) (v := .ref (ad 1 (st.2.2 (x1.toNatClampNeg + 1)))) hx hb hts li_X3_put_X1 hown hC hP (ow_m5 (setN_b c_1)) rfl rfl 0 (by decide) ln_X3_put_0 rfl rfl dX3_put_14 ?_
    refine lv_iload_n hx hb dX3_put_17 rfl (lv_at hl 3 rfl) ?_
    refine og_ciP (og_runVN (C := RX0) (T := TX0) (N := 7) (g := 1) (i := (st.2.2 (x1.toNatClampNeg + 1))) (As := [.int x2]) (rest := []) ⟨hx, hb, hml, hown, hts⟩ (kX0_has l D ca ad A st (st.2.2 (x1.toNatClampNeg + 1)) (hsk _ (setN_b c_1)) x2) ⟨va_cnB 1 hts gX3_put_X0_has_n101 rfl rfl rfl (hC.2.2.1 _ ln_X3_put_2) (hts _ lk_X3_put_3) (by decide +kernel) ⟨Nat.le_of_ble_eq_true rfl, Nat.le_of_ble_eq_true rfl⟩, (hts _ lk_X3_put_4), (hts _ lk_X3_put_5)⟩ hC hP hS (ow_m1 (hsk _ (setN_b c_1))) rfl rfl rfl hl.1 rfl (Nat.le_of_ble_eq_true rfl) dX3_put_18 ⟨Nat.zero_le _, Nat.zero_le _⟩) hS (fun H locs hP hS => ?_)
    refine lv_if_ne (tgt := 26) hx hb dX3_put_21 (by decide) (fun c_2 => ?_) (fun c_2 => ?_)
    · refine lv_aload hx hb dX3_put_26 (lv_at hl 0 rfl) ?_
      refine og_getN (C := RX1) (T := TX1) (N := 2) (g := 5) (i := x1.toNatClampNeg) (v := .ref (ad 1 (st.2.2 (x1.toNatClampNeg + 1)))) hx hb hts li_X3_put_X1 hown hC hP (ow_m5 (setN_b c_1)) rfl rfl 0 (by decide) ln_X3_put_0 rfl rfl dX3_put_28 ?_
      refine lv_iload_n hx hb dX3_put_31 rfl (lv_at hl 3 rfl) ?_
      refine og_ciP (og_runVN (C := RX0) (T := TX0) (N := 7) (g := 1) (i := (st.2.2 (x1.toNatClampNeg + 1))) (As := [.int x2]) (rest := []) ⟨hx, hb, hml, hown, hts⟩ (kX0_constantOf l D ca ad A st (st.2.2 (x1.toNatClampNeg + 1)) (hsk _ (setN_b c_1)) x2) ⟨va_cnB 1 hts gX3_put_X0_constantOf_n94 rfl rfl rfl (hC.2.2.1 _ ln_X3_put_6) (hts _ lk_X3_put_3) (by decide +kernel) ⟨Nat.le_of_ble_eq_true rfl, Nat.le_of_ble_eq_true rfl⟩, (hts _ lk_X3_put_7), (hts _ lk_X3_put_8)⟩ hC hP hS (ow_m1 (hsk _ (setN_b c_1))) rfl rfl rfl hl.1 rfl (Nat.le_of_ble_eq_true rfl) dX3_put_32 ⟨Nat.zero_le _, Nat.zero_le _⟩) hS (fun H locs hP hS => ?_)
      refine lv_istore (lv' := [(5, .int (fX0_constantOf st (st.2.2 (x1.toNatClampNeg + 1)) x2)), (4, .ref (ad 5 x1.toNatClampNeg)), (0, .ref (ad 0 0)), (1, .int x1), (2, .int x2), (3, .int x3)]) hx hb dX3_put_35 hl (by decide) rfl (fun ls hl => ?_)
      refine lv_aload hx hb dX3_put_37 (lv_at hl 1 rfl) ?_
      refine lv_iload hx hb dX3_put_39 (lv_at hl 0 rfl) ?_
      refine og_ciP (og_runVN (C := RX1) (T := TX1) (N := 2) (g := 5) (i := x1.toNatClampNeg) (As := [.int (fX0_constantOf st (st.2.2 (x1.toNatClampNeg + 1)) x2)]) (rest := []) ⟨hx, hb, hml, hown, hts⟩ (kX1_holds l D ca ad A st x1.toNatClampNeg (setN_b c_1) (hsk _ (setN_b c_1)) (fX0_constantOf st (st.2.2 (x1.toNatClampNeg + 1)) x2)) ⟨va_cnB 1 hts gX3_put_X1_holds_n143 rfl rfl rfl (hC.2.2.1 _ ln_X3_put_9) (hts _ lk_X3_put_10) (by decide +kernel) ⟨Nat.le_of_ble_eq_true rfl, Nat.le_of_ble_eq_true rfl⟩, (hts _ lk_X3_put_11), (hts _ lk_X3_put_12)⟩ hC hP hS (ow_m5 (setN_b c_1)) rfl rfl rfl hl.1 rfl (Nat.le_of_ble_eq_true rfl) dX3_put_41 ⟨Nat.zero_le _, Nat.zero_le _⟩) hS (fun H locs hP hS => ?_)
      refine og_ciP (og_runS (As := [.int (fX1_holds st x1.toNatClampNeg (fX0_constantOf st (st.2.2 (x1.toNatClampNeg + 1)) x2))]) (rest := []) ⟨hx, hb, hml, hown, hts⟩ (kX3_oneIf l D ca ad A st (fX1_holds st x1.toNatClampNeg (fX0_constantOf st (st.2.2 (x1.toNatClampNeg + 1)) x2))) (va_cwS 1 hts gX3_put_X3_oneIf rfl rfl rfl (by decide +kernel) ⟨Nat.le_of_ble_eq_true rfl, Nat.le_of_ble_eq_true rfl⟩) hC hP hS rfl hl.1 rfl (Nat.le_of_ble_eq_true rfl) dX3_put_44 ⟨Nat.zero_le _, Nat.zero_le _⟩) hS (fun H locs hP hS => ?_)
      refine lv_istore (lv' := [(6, .int (fX3_oneIf st (fX1_holds st x1.toNatClampNeg (fX0_constantOf st (st.2.2 (x1.toNatClampNeg + 1)) x2)))), (5, .int (fX0_constantOf st (st.2.2 (x1.toNatClampNeg + 1)) x2)), (4, .ref (ad 5 x1.toNatClampNeg)), (0, .ref (ad 0 0)), (1, .int x1), (2, .int x2), (3, .int x3)]) hx hb dX3_put_47 hl (by decide) rfl (fun ls hl => ?_)
      refine lv_iconst (v := 1) hx hb dX3_put_49 (by decide) ?_
      refine lv_iload hx hb dX3_put_50 (lv_at hl 1 rfl) ?_
      refine lv_ishl hx hb dX3_put_52 ?_
      refine lv_istore (lv' := [(7, .int (1 <<< ((fX0_constantOf st (st.2.2 (x1.toNatClampNeg + 1)) x2) &&& 31))), (6, .int (fX3_oneIf st (fX1_holds st x1.toNatClampNeg (fX0_constantOf st (st.2.2 (x1.toNatClampNeg + 1)) x2)))), (5, .int (fX0_constantOf st (st.2.2 (x1.toNatClampNeg + 1)) x2)), (4, .ref (ad 5 x1.toNatClampNeg)), (0, .ref (ad 0 0)), (1, .int x1), (2, .int x2), (3, .int x3)]) hx hb dX3_put_53 hl (by decide) rfl (fun ls hl => ?_)
      refine lv_aload hx hb dX3_put_55 (lv_at hl 3 rfl) ?_
      refine lv_iload_n hx hb dX3_put_57 rfl (lv_at hl 7 rfl) ?_
      refine lv_if_eq (tgt := 72) hx hb dX3_put_58 (by decide) (fun c_3 => ?_) (fun c_3 => ?_)
      · refine lv_aload hx hb dX3_put_72 (lv_at hl 3 rfl) ?_
        refine og_getN (C := RX1) (T := TX1) (N := 2) (g := 5) (i := x1.toNatClampNeg) (v := .int (st.1 3 x1.toNatClampNeg)) hx hb hts li_X3_put_X1 hown hC hP (ow_m5 (setN_b c_1)) rfl rfl 1 (by decide) ln_X3_put_13 rfl rfl dX3_put_74 ?_
        refine lv_iload hx hb dX3_put_77 (lv_at hl 0 rfl) ?_
        refine lv_iconst (v := (-1)) hx hb dX3_put_79 (by decide) ?_
        refine lv_ixor hx hb dX3_put_80 ?_
        refine lv_iand hx hb dX3_put_81 ?_
        refine og_putN (C := RX1) (T := TX1) (N := 2) (g := 5) (i := x1.toNatClampNeg) (v := .int ((st.1 3 x1.toNatClampNeg) &&& ((1 <<< ((fX0_constantOf st (st.2.2 (x1.toNatClampNeg + 1)) x2) &&& 31)) ^^^ (-1)))) (ty := .int) hx hb hts li_X3_put_X1 tyX1 tyX1_ok nmX1 hown hC hP hS (ow_m5 (setN_b c_1)) rfl rfl 1 (by decide) ln_X3_put_13 rfl rfl (by decide +kernel) rfl rfl (Nat.le_of_ble_eq_true rfl) (we_5_m st x1.toNatClampNeg ((st.1 3 x1.toNatClampNeg) &&& ((1 <<< ((fX0_constantOf st (st.2.2 (x1.toNatClampNeg + 1)) x2) &&& 31)) ^^^ (-1)))) dX3_put_82 (fun H locs hP hS => ?_)
        obtain ⟨st4, e4⟩ : ∃ z, z = (ow_si st 3 x1.toNatClampNeg ((st.1 3 x1.toNatClampNeg) &&& ((1 <<< ((fX0_constantOf st (st.2.2 (x1.toNatClampNeg + 1)) x2) &&& 31)) ^^^ (-1)))) := ⟨_, rfl⟩
        rw [← e4] at hP
        refine lv_iload hx hb dX3_put_85 (lv_at hl 1 rfl) ?_
        exact W.iret (v := (fX3_oneIf st (fX1_holds st x1.toNatClampNeg (fX0_constantOf st (st.2.2 (x1.toNatClampNeg + 1)) x2)))) hx hb hr (fun t ht hW => ⟨⟨(fX3_oneIf st (fX1_holds st x1.toNatClampNeg (fX0_constantOf st (st.2.2 (x1.toNatClampNeg + 1)) x2))), st4, rfl, (by subst e4; simp only [fX3_put, if_neg c_1, if_neg c_2, if_pos c_3]), ow_Bi ht hP⟩, hS.F ht⟩) hS.2.2 dX3_put_87
      · refine lv_aload hx hb dX3_put_61 (lv_at hl 3 rfl) ?_
        refine og_getN (C := RX1) (T := TX1) (N := 2) (g := 5) (i := x1.toNatClampNeg) (v := .int (st.1 3 x1.toNatClampNeg)) hx hb hts li_X3_put_X1 hown hC hP (ow_m5 (setN_b c_1)) rfl rfl 1 (by decide) ln_X3_put_13 rfl rfl dX3_put_63 ?_
        refine lv_iload hx hb dX3_put_66 (lv_at hl 0 rfl) ?_
        refine lv_ior hx hb dX3_put_68 ?_
        refine lv_goto (tgt := 82) hx hb dX3_put_69 (by decide) ?_
        refine og_putN (C := RX1) (T := TX1) (N := 2) (g := 5) (i := x1.toNatClampNeg) (v := .int ((st.1 3 x1.toNatClampNeg) ||| (1 <<< ((fX0_constantOf st (st.2.2 (x1.toNatClampNeg + 1)) x2) &&& 31)))) (ty := .int) hx hb hts li_X3_put_X1 tyX1 tyX1_ok nmX1 hown hC hP hS (ow_m5 (setN_b c_1)) rfl rfl 1 (by decide) ln_X3_put_13 rfl rfl (by decide +kernel) rfl rfl (Nat.le_of_ble_eq_true rfl) (we_5_m st x1.toNatClampNeg ((st.1 3 x1.toNatClampNeg) ||| (1 <<< ((fX0_constantOf st (st.2.2 (x1.toNatClampNeg + 1)) x2) &&& 31)))) dX3_put_82 (fun H locs hP hS => ?_)
        obtain ⟨st5, e5⟩ : ∃ z, z = (ow_si st 3 x1.toNatClampNeg ((st.1 3 x1.toNatClampNeg) ||| (1 <<< ((fX0_constantOf st (st.2.2 (x1.toNatClampNeg + 1)) x2) &&& 31)))) := ⟨_, rfl⟩
        rw [← e5] at hP
        refine lv_iload hx hb dX3_put_85 (lv_at hl 1 rfl) ?_
        exact W.iret (v := (fX3_oneIf st (fX1_holds st x1.toNatClampNeg (fX0_constantOf st (st.2.2 (x1.toNatClampNeg + 1)) x2)))) hx hb hr (fun t ht hW => ⟨⟨(fX3_oneIf st (fX1_holds st x1.toNatClampNeg (fX0_constantOf st (st.2.2 (x1.toNatClampNeg + 1)) x2))), st5, rfl, (by subst e5; simp only [fX3_put, if_neg c_1, if_neg c_2, if_neg c_3]), ow_Bi ht hP⟩, hS.F ht⟩) hS.2.2 dX3_put_87
    · refine lv_iconst (v := (-1)) hx hb dX3_put_24 (by decide) ?_
      exact W.iret (v := (-1)) hx hb hr (fun t ht hW => ⟨⟨(-1), st, rfl, (by simp only [fX3_put, if_neg c_1, if_pos c_2]), ow_Bi ht hP⟩, hS.F ht⟩) hS.2.2 dX3_put_25

theorem ln_X3_join_0 : (.fieldLinkNest RX3 140 "RecordLabels$LabelSet" "kind" "LRecordLabels$Kind;" "RecordLabels" : Cond) ∈ ow_nest := by decide +kernel
theorem li_X3_join_X1 : ∀ w ∈ u_ws RX1 TX1 2, w ∈ wsX3_join := by decide +kernel
theorem ln_X3_join_2 : (.methodLinkNest RX3 136 yX1_become "RecordLabels" : Cond) ∈ ow_nest := by decide +kernel
theorem lk_X3_join_3 : (.initialized RX1 : Cond) ∈ wsX3_join := by decide +kernel
theorem lk_X3_join_4 : (.instanceMethod yX1_become : Cond) ∈ wsX3_join := by decide +kernel
theorem lk_X3_join_5 : (.selects RX1 yX1_become yX1_become : Cond) ∈ wsX3_join := by decide +kernel
theorem ln_X3_join_6 : (.methodLinkNest RX3 132 yX1_size "RecordLabels" : Cond) ∈ ow_nest := by decide +kernel
theorem lk_X3_join_7 : (.instanceMethod yX1_size : Cond) ∈ wsX3_join := by decide +kernel
theorem lk_X3_join_8 : (.selects RX1 yX1_size yX1_size : Cond) ∈ wsX3_join := by decide +kernel
def fX3_join (st : ow_St) (x1 x2 x3 x4 : Int32) : Int32 × ow_St := (if x2 < 0 ∨ 10 ≤ x2 then (if x3 < 0 ∨ 10 ≤ x3 then (if x4 < 0 ∨ 10 ≤ x4 then (if x1 < 0 then ((-1), st) else (if 3 < x1 then ((-1), st) else ((-1), st))) else (if x1 < 0 then ((-1), st) else (if 3 < x1 then ((-1), st) else ((-1), st)))) else (if x4 < 0 ∨ 10 ≤ x4 then (if x1 < 0 then ((-1), st) else (if 3 < x1 then ((-1), st) else ((-1), st))) else (if x1 < 0 then ((-1), st) else (if 3 < x1 then ((-1), st) else ((-1), st))))) else (if x3 < 0 ∨ 10 ≤ x3 then (if x4 < 0 ∨ 10 ≤ x4 then (if x1 < 0 then ((-1), st) else (if 3 < x1 then ((-1), st) else ((-1), st))) else (if x1 < 0 then ((-1), st) else (if 3 < x1 then ((-1), st) else ((-1), st)))) else (if x4 < 0 ∨ 10 ≤ x4 then (if x1 < 0 then ((-1), st) else (if 3 < x1 then ((-1), st) else ((-1), st))) else (if x1 < 0 then ((-1), st) else (if 3 < x1 then ((-1), st) else (if x1 = 3 then (let st25 := (fX1_become st x4.toNatClampNeg (st.2.2 (x2.toNatClampNeg + 1)) (fX3_joined st x1 x2.toNatClampNeg x3.toNatClampNeg)); ((fX1_size st25 x4.toNatClampNeg), st25)) else (if (st.2.2 (x2.toNatClampNeg + 1)) = (st.2.2 (x3.toNatClampNeg + 1)) then (let st27 := (fX1_become st x4.toNatClampNeg (st.2.2 (x2.toNatClampNeg + 1)) (fX3_joined st x1 x2.toNatClampNeg x3.toNatClampNeg)); ((fX1_size st27 x4.toNatClampNeg), st27)) else ((-3), st))))))))
set_option maxHeartbeats 4000000 in
set_option maxRecDepth 100000 in
theorem kX3_join (l : Launch) (D : va_G) (ca : Nat → ClassId) (ad : ow_Ad) (A : Nat → Prop) (st : ow_St) (x1 : Int32) (x2 : Int32) (x3 : Int32) (x4 : Int32) (hsk : iv_sk st) : Met l yX3_join wsX3_join ({ frames := 2, cells := 0, slots := 0, locals := 40 }) (va_Pc [.ref (ad 0 0), .int x1, .int x2, .int x3, .int x4] (ow_W D ca ad A st)) (va_Qi (fun r st' => (r, st') = (fX3_join st x1 x2 x3 x4)) (ow_B D ca ad) A) 0 0 A := by
  refine Met.ofW (cc := cX3_join) (maxL := 8) (ret := (some .int)) (by decide) rfl ?_
  intro p e s m args below meth c s₁ B hml hv
  obtain ⟨rfl, hP, hC⟩ := hv
  have hx := B.exec
  have hb := B.bytes
  have hr := B.returns
  have hts := atoms_spec (ws := wsX3_join) B.pre
  have hown : s.vm.findClass RX3 = some m.cls := findClass_of_methodNamed B.named
  have hlocks := B.notSynchronized
  have hS : va_S A s.heap s.heap [] := va_S.rf
  have hl := lv_entry ([.ref (ad 0 0), .int x1, .int x2, .int x3, .int x4]) (n := 8) (Nat.le_of_ble_eq_true rfl)
  rw [lg_entry_eq]
  generalize (lg_sl ([.ref (ad 0 0), .int x1, .int x2, .int x3, .int x4]) ++ List.replicate (8 - (lg_sl ([.ref (ad 0 0), .int x1, .int x2, .int x3, .int x4])).length) Slot.unset).toArray = ls at hl ⊢
  have hl : lv_has ls 8 [(0, .ref (ad 0 0)), (1, .int x1), (2, .int x2), (3, .int x3), (4, .int x4)] := hl
  refine lv_aload_n hx hb dX3_join_0 rfl (lv_at hl 0 rfl) ?_
  refine lv_iload_n hx hb dX3_join_1 rfl (lv_at hl 2 rfl) ?_
  by_cases c_1 : x2 < 0 ∨ 10 ≤ x2
  · refine og_cqN (og_runV (C := RX3) (T := TX3) (N := 14) (g := 0) (i := 0) (As := [.int x2]) (rest := []) ⟨hx, hb, hml, hown, hts⟩ (kX3_setNumbered l D ca ad A st x2) (cwV 1 hts gX3_join_X3_setNumbered rfl rfl rfl (by decide +kernel) ⟨Nat.le_of_ble_eq_true rfl, Nat.le_of_ble_eq_true rfl⟩) hC hP hS (ow_q0_0) rfl rfl rfl hl.1 rfl (Nat.le_of_ble_eq_true rfl) dX3_join_2 ⟨Nat.zero_le _, Nat.zero_le _⟩) hS (setN_none c_1) (fun H locs hP hS => ?_)
    refine lv_astoreN (lv' := [(5, .null), (0, .ref (ad 0 0)), (1, .int x1), (2, .int x2), (3, .int x3), (4, .int x4)]) hx hb dX3_join_5 hl (by decide) rfl (fun ls hl => ?_)
    refine lv_aload_n hx hb dX3_join_7 rfl (lv_at hl 1 rfl) ?_
    refine lv_iload_n hx hb dX3_join_8 rfl (lv_at hl 4 rfl) ?_
    by_cases c_2 : x3 < 0 ∨ 10 ≤ x3
    · refine og_cqN (og_runV (C := RX3) (T := TX3) (N := 14) (g := 0) (i := 0) (As := [.int x3]) (rest := []) ⟨hx, hb, hml, hown, hts⟩ (kX3_setNumbered l D ca ad A st x3) (cwV 1 hts gX3_join_X3_setNumbered rfl rfl rfl (by decide +kernel) ⟨Nat.le_of_ble_eq_true rfl, Nat.le_of_ble_eq_true rfl⟩) hC hP hS (ow_q0_0) rfl rfl rfl hl.1 rfl (Nat.le_of_ble_eq_true rfl) dX3_join_9 ⟨Nat.zero_le _, Nat.zero_le _⟩) hS (setN_none c_2) (fun H locs hP hS => ?_)
      refine lv_astoreN (lv' := [(6, .null), (5, .null), (0, .ref (ad 0 0)), (1, .int x1), (2, .int x2), (3, .int x3), (4, .int x4)]) hx hb dX3_join_12 hl (by decide) rfl (fun ls hl => ?_)
      refine lv_aload_n hx hb dX3_join_14 rfl (lv_at hl 2 rfl) ?_
      refine lv_iload hx hb dX3_join_15 (lv_at hl 6 rfl) ?_
      by_cases c_3 : x4 < 0 ∨ 10 ≤ x4
      · refine og_cqN (og_runV (C := RX3) (T := TX3) (N := 14) (g := 0) (i := 0) (As := [.int x4]) (rest := []) ⟨hx, hb, hml, hown, hts⟩ (kX3_setNumbered l D ca ad A st x4) (cwV 1 hts gX3_join_X3_setNumbered rfl rfl rfl (by decide +kernel) ⟨Nat.le_of_ble_eq_true rfl, Nat.le_of_ble_eq_true rfl⟩) hC hP hS (ow_q0_0) rfl rfl rfl hl.1 rfl (Nat.le_of_ble_eq_true rfl) dX3_join_17 ⟨Nat.zero_le _, Nat.zero_le _⟩) hS (setN_none c_3) (fun H locs hP hS => ?_)
        refine lv_astoreN (lv' := [(7, .null), (6, .null), (5, .null), (0, .ref (ad 0 0)), (1, .int x1), (2, .int x2), (3, .int x3), (4, .int x4)]) hx hb dX3_join_20 hl (by decide) rfl (fun ls hl => ?_)
        refine lv_iload_n hx hb dX3_join_22 rfl (lv_at hl 4 rfl) ?_
        refine lv_if_lt (tgt := 46) hx hb dX3_join_23 (by decide) (fun c_4 => ?_) (fun c_4 => ?_)
        · refine lv_iconst (v := (-1)) hx hb dX3_join_46 (by decide) ?_
          exact W.iret (v := (-1)) hx hb hr (fun t ht hW => ⟨⟨(-1), st, rfl, (by simp only [fX3_join, if_pos c_1, if_pos c_2, if_pos c_3, if_pos c_4]), ow_Bi ht hP⟩, hS.F ht⟩) hS.2.2 dX3_join_47
        · refine lv_iload_n hx hb dX3_join_26 rfl (lv_at hl 4 rfl) ?_
          refine lv_iconst (v := 3) hx hb dX3_join_27 (by decide) ?_
          refine lv_icmp_gt (tgt := 46) hx hb dX3_join_28 (by decide) (fun c_5 => ?_) (fun c_5 => ?_)
          · refine lv_iconst (v := (-1)) hx hb dX3_join_46 (by decide) ?_
            exact W.iret (v := (-1)) hx hb hr (fun t ht hW => ⟨⟨(-1), st, rfl, (by simp only [fX3_join, if_pos c_1, if_pos c_2, if_pos c_3, if_neg c_4, if_pos c_5]), ow_Bi ht hP⟩, hS.F ht⟩) hS.2.2 dX3_join_47
          · refine lv_aloadN hx hb dX3_join_31 (lv_at hl 2 rfl) ?_
            refine lv_ifnullN (tgt := 46) hx hb dX3_join_33 (by decide) ?_
            refine lv_iconst (v := (-1)) hx hb dX3_join_46 (by decide) ?_
            exact W.iret (v := (-1)) hx hb hr (fun t ht hW => ⟨⟨(-1), st, rfl, (by simp only [fX3_join, if_pos c_1, if_pos c_2, if_pos c_3, if_neg c_4, if_neg c_5]), ow_Bi ht hP⟩, hS.F ht⟩) hS.2.2 dX3_join_47
      · refine og_cqS (q := ad 5 x4.toNatClampNeg) (og_runV (C := RX3) (T := TX3) (N := 14) (g := 0) (i := 0) (As := [.int x4]) (rest := []) ⟨hx, hb, hml, hown, hts⟩ (kX3_setNumbered l D ca ad A st x4) (cwV 1 hts gX3_join_X3_setNumbered rfl rfl rfl (by decide +kernel) ⟨Nat.le_of_ble_eq_true rfl, Nat.le_of_ble_eq_true rfl⟩) hC hP hS (ow_q0_0) rfl rfl rfl hl.1 rfl (Nat.le_of_ble_eq_true rfl) dX3_join_17 ⟨Nat.zero_le _, Nat.zero_le _⟩) hS (setN_some c_3) (fun H locs hP hS => ?_)
        refine lv_astore (lv' := [(7, .ref (ad 5 x4.toNatClampNeg)), (6, .null), (5, .null), (0, .ref (ad 0 0)), (1, .int x1), (2, .int x2), (3, .int x3), (4, .int x4)]) hx hb dX3_join_20 hl (by decide) rfl (fun ls hl => ?_)
        refine lv_iload_n hx hb dX3_join_22 rfl (lv_at hl 4 rfl) ?_
        refine lv_if_lt (tgt := 46) hx hb dX3_join_23 (by decide) (fun c_6 => ?_) (fun c_6 => ?_)
        · refine lv_iconst (v := (-1)) hx hb dX3_join_46 (by decide) ?_
          exact W.iret (v := (-1)) hx hb hr (fun t ht hW => ⟨⟨(-1), st, rfl, (by simp only [fX3_join, if_pos c_1, if_pos c_2, if_neg c_3, if_pos c_6]), ow_Bi ht hP⟩, hS.F ht⟩) hS.2.2 dX3_join_47
        · refine lv_iload_n hx hb dX3_join_26 rfl (lv_at hl 4 rfl) ?_
          refine lv_iconst (v := 3) hx hb dX3_join_27 (by decide) ?_
          refine lv_icmp_gt (tgt := 46) hx hb dX3_join_28 (by decide) (fun c_7 => ?_) (fun c_7 => ?_)
          · refine lv_iconst (v := (-1)) hx hb dX3_join_46 (by decide) ?_
            exact W.iret (v := (-1)) hx hb hr (fun t ht hW => ⟨⟨(-1), st, rfl, (by simp only [fX3_join, if_pos c_1, if_pos c_2, if_neg c_3, if_neg c_6, if_pos c_7]), ow_Bi ht hP⟩, hS.F ht⟩) hS.2.2 dX3_join_47
          · refine lv_aloadN hx hb dX3_join_31 (lv_at hl 2 rfl) ?_
            refine lv_ifnullN (tgt := 46) hx hb dX3_join_33 (by decide) ?_
            refine lv_iconst (v := (-1)) hx hb dX3_join_46 (by decide) ?_
            exact W.iret (v := (-1)) hx hb hr (fun t ht hW => ⟨⟨(-1), st, rfl, (by simp only [fX3_join, if_pos c_1, if_pos c_2, if_neg c_3, if_neg c_6, if_neg c_7]), ow_Bi ht hP⟩, hS.F ht⟩) hS.2.2 dX3_join_47
    · refine og_cqS (q := ad 5 x3.toNatClampNeg) (og_runV (C := RX3) (T := TX3) (N := 14) (g := 0) (i := 0) (As := [.int x3]) (rest := []) ⟨hx, hb, hml, hown, hts⟩ (kX3_setNumbered l D ca ad A st x3) (cwV 1 hts gX3_join_X3_setNumbered rfl rfl rfl (by decide +kernel) ⟨Nat.le_of_ble_eq_true rfl, Nat.le_of_ble_eq_true rfl⟩) hC hP hS (ow_q0_0) rfl rfl rfl hl.1 rfl (Nat.le_of_ble_eq_true rfl) dX3_join_9 ⟨Nat.zero_le _, Nat.zero_le _⟩) hS (setN_some c_2) (fun H locs hP hS => ?_)
      refine lv_astore (lv' := [(6, .ref (ad 5 x3.toNatClampNeg)), (5, .null), (0, .ref (ad 0 0)), (1, .int x1), (2, .int x2), (3, .int x3), (4, .int x4)]) hx hb dX3_join_12 hl (by decide) rfl (fun ls hl => ?_)
      refine lv_aload_n hx hb dX3_join_14 rfl (lv_at hl 2 rfl) ?_
      refine lv_iload hx hb dX3_join_15 (lv_at hl 6 rfl) ?_
      by_cases c_8 : x4 < 0 ∨ 10 ≤ x4
      · refine og_cqN (og_runV (C := RX3) (T := TX3) (N := 14) (g := 0) (i := 0) (As := [.int x4]) (rest := []) ⟨hx, hb, hml, hown, hts⟩ (kX3_setNumbered l D ca ad A st x4) (cwV 1 hts gX3_join_X3_setNumbered rfl rfl rfl (by decide +kernel) ⟨Nat.le_of_ble_eq_true rfl, Nat.le_of_ble_eq_true rfl⟩) hC hP hS (ow_q0_0) rfl rfl rfl hl.1 rfl (Nat.le_of_ble_eq_true rfl) dX3_join_17 ⟨Nat.zero_le _, Nat.zero_le _⟩) hS (setN_none c_8) (fun H locs hP hS => ?_)
        refine lv_astoreN (lv' := [(7, .null), (6, .ref (ad 5 x3.toNatClampNeg)), (5, .null), (0, .ref (ad 0 0)), (1, .int x1), (2, .int x2), (3, .int x3), (4, .int x4)]) hx hb dX3_join_20 hl (by decide) rfl (fun ls hl => ?_)
        refine lv_iload_n hx hb dX3_join_22 rfl (lv_at hl 4 rfl) ?_
        refine lv_if_lt (tgt := 46) hx hb dX3_join_23 (by decide) (fun c_9 => ?_) (fun c_9 => ?_)
        · refine lv_iconst (v := (-1)) hx hb dX3_join_46 (by decide) ?_
          exact W.iret (v := (-1)) hx hb hr (fun t ht hW => ⟨⟨(-1), st, rfl, (by simp only [fX3_join, if_pos c_1, if_neg c_2, if_pos c_8, if_pos c_9]), ow_Bi ht hP⟩, hS.F ht⟩) hS.2.2 dX3_join_47
        · refine lv_iload_n hx hb dX3_join_26 rfl (lv_at hl 4 rfl) ?_
          refine lv_iconst (v := 3) hx hb dX3_join_27 (by decide) ?_
          refine lv_icmp_gt (tgt := 46) hx hb dX3_join_28 (by decide) (fun c_10 => ?_) (fun c_10 => ?_)
          · refine lv_iconst (v := (-1)) hx hb dX3_join_46 (by decide) ?_
            exact W.iret (v := (-1)) hx hb hr (fun t ht hW => ⟨⟨(-1), st, rfl, (by simp only [fX3_join, if_pos c_1, if_neg c_2, if_pos c_8, if_neg c_9, if_pos c_10]), ow_Bi ht hP⟩, hS.F ht⟩) hS.2.2 dX3_join_47
          · refine lv_aloadN hx hb dX3_join_31 (lv_at hl 2 rfl) ?_
            refine lv_ifnullN (tgt := 46) hx hb dX3_join_33 (by decide) ?_
            refine lv_iconst (v := (-1)) hx hb dX3_join_46 (by decide) ?_
            exact W.iret (v := (-1)) hx hb hr (fun t ht hW => ⟨⟨(-1), st, rfl, (by simp only [fX3_join, if_pos c_1, if_neg c_2, if_pos c_8, if_neg c_9, if_neg c_10]), ow_Bi ht hP⟩, hS.F ht⟩) hS.2.2 dX3_join_47
      · refine og_cqS (q := ad 5 x4.toNatClampNeg) (og_runV (C := RX3) (T := TX3) (N := 14) (g := 0) (i := 0) (As := [.int x4]) (rest := []) ⟨hx, hb, hml, hown, hts⟩ (kX3_setNumbered l D ca ad A st x4) (cwV 1 hts gX3_join_X3_setNumbered rfl rfl rfl (by decide +kernel) ⟨Nat.le_of_ble_eq_true rfl, Nat.le_of_ble_eq_true rfl⟩) hC hP hS (ow_q0_0) rfl rfl rfl hl.1 rfl (Nat.le_of_ble_eq_true rfl) dX3_join_17 ⟨Nat.zero_le _, Nat.zero_le _⟩) hS (setN_some c_8) (fun H locs hP hS => ?_)
        refine lv_astore (lv' := [(7, .ref (ad 5 x4.toNatClampNeg)), (6, .ref (ad 5 x3.toNatClampNeg)), (5, .null), (0, .ref (ad 0 0)), (1, .int x1), (2, .int x2), (3, .int x3), (4, .int x4)]) hx hb dX3_join_20 hl (by decide) rfl (fun ls hl => ?_)
        refine lv_iload_n hx hb dX3_join_22 rfl (lv_at hl 4 rfl) ?_
        refine lv_if_lt (tgt := 46) hx hb dX3_join_23 (by decide) (fun c_11 => ?_) (fun c_11 => ?_)
        · refine lv_iconst (v := (-1)) hx hb dX3_join_46 (by decide) ?_
          exact W.iret (v := (-1)) hx hb hr (fun t ht hW => ⟨⟨(-1), st, rfl, (by simp only [fX3_join, if_pos c_1, if_neg c_2, if_neg c_8, if_pos c_11]), ow_Bi ht hP⟩, hS.F ht⟩) hS.2.2 dX3_join_47
        · refine lv_iload_n hx hb dX3_join_26 rfl (lv_at hl 4 rfl) ?_
          refine lv_iconst (v := 3) hx hb dX3_join_27 (by decide) ?_
          refine lv_icmp_gt (tgt := 46) hx hb dX3_join_28 (by decide) (fun c_12 => ?_) (fun c_12 => ?_)
          · refine lv_iconst (v := (-1)) hx hb dX3_join_46 (by decide) ?_
            exact W.iret (v := (-1)) hx hb hr (fun t ht hW => ⟨⟨(-1), st, rfl, (by simp only [fX3_join, if_pos c_1, if_neg c_2, if_neg c_8, if_neg c_11, if_pos c_12]), ow_Bi ht hP⟩, hS.F ht⟩) hS.2.2 dX3_join_47
          · refine lv_aloadN hx hb dX3_join_31 (lv_at hl 2 rfl) ?_
            refine lv_ifnullN (tgt := 46) hx hb dX3_join_33 (by decide) ?_
            refine lv_iconst (v := (-1)) hx hb dX3_join_46 (by decide) ?_
            exact W.iret (v := (-1)) hx hb hr (fun t ht hW => ⟨⟨(-1), st, rfl, (by simp only [fX3_join, if_pos c_1, if_neg c_2, if_neg c_8, if_neg c_11, if_neg c_12]), ow_Bi ht hP⟩, hS.F ht⟩) hS.2.2 dX3_join_47
  · refine og_cqS (q := ad 5 x2.toNatClampNeg) (og_runV (C := RX3) (T := TX3) (N := 14) (g := 0) (i := 0) (As := [.int x2]) (rest := []) ⟨hx, hb, hml, hown, hts⟩ (kX3_setNumbered l D ca ad A st x2) (cwV 1 hts gX3_join_X3_setNumbered rfl rfl rfl (by decide +kernel) ⟨Nat.le_of_ble_eq_true rfl, Nat.le_of_ble_eq_true rfl⟩) hC hP hS (ow_q0_0) rfl rfl rfl hl.1 rfl (Nat.le_of_ble_eq_true rfl) dX3_join_2 ⟨Nat.zero_le _, Nat.zero_le _⟩) hS (setN_some c_1) (fun H locs hP hS => ?_)
    refine lv_astore (lv' := [(5, .ref (ad 5 x2.toNatClampNeg)), (0, .ref (ad 0 0)), (1, .int x1), (2, .int x2), (3, .int x3), (4, .int x4)]) hx hb dX3_join_5 hl (by decide) rfl (fun ls hl => ?_)
    refine lv_aload_n hx hb dX3_join_7 rfl (lv_at hl 1 rfl) ?_
    refine lv_iload_n hx hb dX3_join_8 rfl (lv_at hl 4 rfl) ?_
    by_cases c_13 : x3 < 0 ∨ 10 ≤ x3
    · refine og_cqN (og_runV (C := RX3) (T := TX3) (N := 14) (g := 0) (i := 0) (As := [.int x3]) (rest := []) ⟨hx, hb, hml, hown, hts⟩ (kX3_setNumbered l D ca ad A st x3) (cwV 1 hts gX3_join_X3_setNumbered rfl rfl rfl (by decide +kernel) ⟨Nat.le_of_ble_eq_true rfl, Nat.le_of_ble_eq_true rfl⟩) hC hP hS (ow_q0_0) rfl rfl rfl hl.1 rfl (Nat.le_of_ble_eq_true rfl) dX3_join_9 ⟨Nat.zero_le _, Nat.zero_le _⟩) hS (setN_none c_13) (fun H locs hP hS => ?_)
      refine lv_astoreN (lv' := [(6, .null), (5, .ref (ad 5 x2.toNatClampNeg)), (0, .ref (ad 0 0)), (1, .int x1), (2, .int x2), (3, .int x3), (4, .int x4)]) hx hb dX3_join_12 hl (by decide) rfl (fun ls hl => ?_)
      refine lv_aload_n hx hb dX3_join_14 rfl (lv_at hl 2 rfl) ?_
      refine lv_iload hx hb dX3_join_15 (lv_at hl 6 rfl) ?_
      by_cases c_14 : x4 < 0 ∨ 10 ≤ x4
      · refine og_cqN (og_runV (C := RX3) (T := TX3) (N := 14) (g := 0) (i := 0) (As := [.int x4]) (rest := []) ⟨hx, hb, hml, hown, hts⟩ (kX3_setNumbered l D ca ad A st x4) (cwV 1 hts gX3_join_X3_setNumbered rfl rfl rfl (by decide +kernel) ⟨Nat.le_of_ble_eq_true rfl, Nat.le_of_ble_eq_true rfl⟩) hC hP hS (ow_q0_0) rfl rfl rfl hl.1 rfl (Nat.le_of_ble_eq_true rfl) dX3_join_17 ⟨Nat.zero_le _, Nat.zero_le _⟩) hS (setN_none c_14) (fun H locs hP hS => ?_)
        refine lv_astoreN (lv' := [(7, .null), (6, .null), (5, .ref (ad 5 x2.toNatClampNeg)), (0, .ref (ad 0 0)), (1, .int x1), (2, .int x2), (3, .int x3), (4, .int x4)]) hx hb dX3_join_20 hl (by decide) rfl (fun ls hl => ?_)
        refine lv_iload_n hx hb dX3_join_22 rfl (lv_at hl 4 rfl) ?_
        refine lv_if_lt (tgt := 46) hx hb dX3_join_23 (by decide) (fun c_15 => ?_) (fun c_15 => ?_)
        · refine lv_iconst (v := (-1)) hx hb dX3_join_46 (by decide) ?_
          exact W.iret (v := (-1)) hx hb hr (fun t ht hW => ⟨⟨(-1), st, rfl, (by simp only [fX3_join, if_neg c_1, if_pos c_13, if_pos c_14, if_pos c_15]), ow_Bi ht hP⟩, hS.F ht⟩) hS.2.2 dX3_join_47
        · refine lv_iload_n hx hb dX3_join_26 rfl (lv_at hl 4 rfl) ?_
          refine lv_iconst (v := 3) hx hb dX3_join_27 (by decide) ?_
          refine lv_icmp_gt (tgt := 46) hx hb dX3_join_28 (by decide) (fun c_16 => ?_) (fun c_16 => ?_)
          · refine lv_iconst (v := (-1)) hx hb dX3_join_46 (by decide) ?_
            exact W.iret (v := (-1)) hx hb hr (fun t ht hW => ⟨⟨(-1), st, rfl, (by simp only [fX3_join, if_neg c_1, if_pos c_13, if_pos c_14, if_neg c_15, if_pos c_16]), ow_Bi ht hP⟩, hS.F ht⟩) hS.2.2 dX3_join_47
          · refine lv_aload hx hb dX3_join_31 (lv_at hl 2 rfl) ?_
            refine lv_ifnull hx hb dX3_join_33 ?_
            refine lv_aloadN hx hb dX3_join_36 (lv_at hl 1 rfl) ?_
            refine lv_ifnullN (tgt := 46) hx hb dX3_join_38 (by decide) ?_
            refine lv_iconst (v := (-1)) hx hb dX3_join_46 (by decide) ?_
            exact W.iret (v := (-1)) hx hb hr (fun t ht hW => ⟨⟨(-1), st, rfl, (by simp only [fX3_join, if_neg c_1, if_pos c_13, if_pos c_14, if_neg c_15, if_neg c_16]), ow_Bi ht hP⟩, hS.F ht⟩) hS.2.2 dX3_join_47
      · refine og_cqS (q := ad 5 x4.toNatClampNeg) (og_runV (C := RX3) (T := TX3) (N := 14) (g := 0) (i := 0) (As := [.int x4]) (rest := []) ⟨hx, hb, hml, hown, hts⟩ (kX3_setNumbered l D ca ad A st x4) (cwV 1 hts gX3_join_X3_setNumbered rfl rfl rfl (by decide +kernel) ⟨Nat.le_of_ble_eq_true rfl, Nat.le_of_ble_eq_true rfl⟩) hC hP hS (ow_q0_0) rfl rfl rfl hl.1 rfl (Nat.le_of_ble_eq_true rfl) dX3_join_17 ⟨Nat.zero_le _, Nat.zero_le _⟩) hS (setN_some c_14) (fun H locs hP hS => ?_)
        refine lv_astore (lv' := [(7, .ref (ad 5 x4.toNatClampNeg)), (6, .null), (5, .ref (ad 5 x2.toNatClampNeg)), (0, .ref (ad 0 0)), (1, .int x1), (2, .int x2), (3, .int x3), (4, .int x4)]) hx hb dX3_join_20 hl (by decide) rfl (fun ls hl => ?_)
        refine lv_iload_n hx hb dX3_join_22 rfl (lv_at hl 4 rfl) ?_
        refine lv_if_lt (tgt := 46) hx hb dX3_join_23 (by decide) (fun c_17 => ?_) (fun c_17 => ?_)
        · refine lv_iconst (v := (-1)) hx hb dX3_join_46 (by decide) ?_
          exact W.iret (v := (-1)) hx hb hr (fun t ht hW => ⟨⟨(-1), st, rfl, (by simp only [fX3_join, if_neg c_1, if_pos c_13, if_neg c_14, if_pos c_17]), ow_Bi ht hP⟩, hS.F ht⟩) hS.2.2 dX3_join_47
        · refine lv_iload_n hx hb dX3_join_26 rfl (lv_at hl 4 rfl) ?_
          refine lv_iconst (v := 3) hx hb dX3_join_27 (by decide) ?_
          refine lv_icmp_gt (tgt := 46) hx hb dX3_join_28 (by decide) (fun c_18 => ?_) (fun c_18 => ?_)
          · refine lv_iconst (v := (-1)) hx hb dX3_join_46 (by decide) ?_
            exact W.iret (v := (-1)) hx hb hr (fun t ht hW => ⟨⟨(-1), st, rfl, (by simp only [fX3_join, if_neg c_1, if_pos c_13, if_neg c_14, if_neg c_17, if_pos c_18]), ow_Bi ht hP⟩, hS.F ht⟩) hS.2.2 dX3_join_47
          · refine lv_aload hx hb dX3_join_31 (lv_at hl 2 rfl) ?_
            refine lv_ifnull hx hb dX3_join_33 ?_
            refine lv_aloadN hx hb dX3_join_36 (lv_at hl 1 rfl) ?_
            refine lv_ifnullN (tgt := 46) hx hb dX3_join_38 (by decide) ?_
            refine lv_iconst (v := (-1)) hx hb dX3_join_46 (by decide) ?_
            exact W.iret (v := (-1)) hx hb hr (fun t ht hW => ⟨⟨(-1), st, rfl, (by simp only [fX3_join, if_neg c_1, if_pos c_13, if_neg c_14, if_neg c_17, if_neg c_18]), ow_Bi ht hP⟩, hS.F ht⟩) hS.2.2 dX3_join_47
    · refine og_cqS (q := ad 5 x3.toNatClampNeg) (og_runV (C := RX3) (T := TX3) (N := 14) (g := 0) (i := 0) (As := [.int x3]) (rest := []) ⟨hx, hb, hml, hown, hts⟩ (kX3_setNumbered l D ca ad A st x3) (cwV 1 hts gX3_join_X3_setNumbered rfl rfl rfl (by decide +kernel) ⟨Nat.le_of_ble_eq_true rfl, Nat.le_of_ble_eq_true rfl⟩) hC hP hS (ow_q0_0) rfl rfl rfl hl.1 rfl (Nat.le_of_ble_eq_true rfl) dX3_join_9 ⟨Nat.zero_le _, Nat.zero_le _⟩) hS (setN_some c_13) (fun H locs hP hS => ?_)
      refine lv_astore (lv' := [(6, .ref (ad 5 x3.toNatClampNeg)), (5, .ref (ad 5 x2.toNatClampNeg)), (0, .ref (ad 0 0)), (1, .int x1), (2, .int x2), (3, .int x3), (4, .int x4)]) hx hb dX3_join_12 hl (by decide) rfl (fun ls hl => ?_)
      refine lv_aload_n hx hb dX3_join_14 rfl (lv_at hl 2 rfl) ?_
      refine lv_iload hx hb dX3_join_15 (lv_at hl 6 rfl) ?_
      by_cases c_19 : x4 < 0 ∨ 10 ≤ x4
      · refine og_cqN (og_runV (C := RX3) (T := TX3) (N := 14) (g := 0) (i := 0) (As := [.int x4]) (rest := []) ⟨hx, hb, hml, hown, hts⟩ (kX3_setNumbered l D ca ad A st x4) (cwV 1 hts gX3_join_X3_setNumbered rfl rfl rfl (by decide +kernel) ⟨Nat.le_of_ble_eq_true rfl, Nat.le_of_ble_eq_true rfl⟩) hC hP hS (ow_q0_0) rfl rfl rfl hl.1 rfl (Nat.le_of_ble_eq_true rfl) dX3_join_17 ⟨Nat.zero_le _, Nat.zero_le _⟩) hS (setN_none c_19) (fun H locs hP hS => ?_)
        refine lv_astoreN (lv' := [(7, .null), (6, .ref (ad 5 x3.toNatClampNeg)), (5, .ref (ad 5 x2.toNatClampNeg)), (0, .ref (ad 0 0)), (1, .int x1), (2, .int x2), (3, .int x3), (4, .int x4)]) hx hb dX3_join_20 hl (by decide) rfl (fun ls hl => ?_)
        refine lv_iload_n hx hb dX3_join_22 rfl (lv_at hl 4 rfl) ?_
        refine lv_if_lt (tgt := 46) hx hb dX3_join_23 (by decide) (fun c_20 => ?_) (fun c_20 => ?_)
        · refine lv_iconst (v := (-1)) hx hb dX3_join_46 (by decide) ?_
          exact W.iret (v := (-1)) hx hb hr (fun t ht hW => ⟨⟨(-1), st, rfl, (by simp only [fX3_join, if_neg c_1, if_neg c_13, if_pos c_19, if_pos c_20]), ow_Bi ht hP⟩, hS.F ht⟩) hS.2.2 dX3_join_47
        · refine lv_iload_n hx hb dX3_join_26 rfl (lv_at hl 4 rfl) ?_
          refine lv_iconst (v := 3) hx hb dX3_join_27 (by decide) ?_
          refine lv_icmp_gt (tgt := 46) hx hb dX3_join_28 (by decide) (fun c_21 => ?_) (fun c_21 => ?_)
          · refine lv_iconst (v := (-1)) hx hb dX3_join_46 (by decide) ?_
            exact W.iret (v := (-1)) hx hb hr (fun t ht hW => ⟨⟨(-1), st, rfl, (by simp only [fX3_join, if_neg c_1, if_neg c_13, if_pos c_19, if_neg c_20, if_pos c_21]), ow_Bi ht hP⟩, hS.F ht⟩) hS.2.2 dX3_join_47
          · refine lv_aload hx hb dX3_join_31 (lv_at hl 2 rfl) ?_
            refine lv_ifnull hx hb dX3_join_33 ?_
            refine lv_aload hx hb dX3_join_36 (lv_at hl 1 rfl) ?_
            refine lv_ifnull hx hb dX3_join_38 ?_
            refine lv_aloadN hx hb dX3_join_41 (lv_at hl 0 rfl) ?_
            refine lv_ifnonnullN hx hb dX3_join_43 ?_
            refine lv_iconst (v := (-1)) hx hb dX3_join_46 (by decide) ?_
            exact W.iret (v := (-1)) hx hb hr (fun t ht hW => ⟨⟨(-1), st, rfl, (by simp only [fX3_join, if_neg c_1, if_neg c_13, if_pos c_19, if_neg c_20, if_neg c_21]), ow_Bi ht hP⟩, hS.F ht⟩) hS.2.2 dX3_join_47
      · refine og_cqS (q := ad 5 x4.toNatClampNeg) (og_runV (C := RX3) (T := TX3) (N := 14) (g := 0) (i := 0) (As := [.int x4]) (rest := []) ⟨hx, hb, hml, hown, hts⟩ (kX3_setNumbered l D ca ad A st x4) (cwV 1 hts gX3_join_X3_setNumbered rfl rfl rfl (by decide +kernel) ⟨Nat.le_of_ble_eq_true rfl, Nat.le_of_ble_eq_true rfl⟩) hC hP hS (ow_q0_0) rfl rfl rfl hl.1 rfl (Nat.le_of_ble_eq_true rfl) dX3_join_17 ⟨Nat.zero_le _, Nat.zero_le _⟩) hS (setN_some c_19) (fun H locs hP hS => ?_)
        refine lv_astore (lv' := [(7, .ref (ad 5 x4.toNatClampNeg)), (6, .ref (ad 5 x3.toNatClampNeg)), (5, .ref (ad 5 x2.toNatClampNeg)), (0, .ref (ad 0 0)), (1, .int x1), (2, .int x2), (3, .int x3), (4, .int x4)]) hx hb dX3_join_20 hl (by decide) rfl (fun ls hl => ?_)
        refine lv_iload_n hx hb dX3_join_22 rfl (lv_at hl 4 rfl) ?_
        refine lv_if_lt (tgt := 46) hx hb dX3_join_23 (by decide) (fun c_22 => ?_) (fun c_22 => ?_)
        · refine lv_iconst (v := (-1)) hx hb dX3_join_46 (by decide) ?_
          exact W.iret (v := (-1)) hx hb hr (fun t ht hW => ⟨⟨(-1), st, rfl, (by simp only [fX3_join, if_neg c_1, if_neg c_13, if_neg c_19, if_pos c_22]), ow_Bi ht hP⟩, hS.F ht⟩) hS.2.2 dX3_join_47
        · refine lv_iload_n hx hb dX3_join_26 rfl (lv_at hl 4 rfl) ?_
          refine lv_iconst (v := 3) hx hb dX3_join_27 (by decide) ?_
          refine lv_icmp_gt (tgt := 46) hx hb dX3_join_28 (by decide) (fun c_23 => ?_) (fun c_23 => ?_)
          · refine lv_iconst (v := (-1)) hx hb dX3_join_46 (by decide) ?_
            exact W.iret (v := (-1)) hx hb hr (fun t ht hW => ⟨⟨(-1), st, rfl, (by simp only [fX3_join, if_neg c_1, if_neg c_13, if_neg c_19, if_neg c_22, if_pos c_23]), ow_Bi ht hP⟩, hS.F ht⟩) hS.2.2 dX3_join_47
          · refine lv_aload hx hb dX3_join_31 (lv_at hl 2 rfl) ?_
            refine lv_ifnull hx hb dX3_join_33 ?_
            refine lv_aload hx hb dX3_join_36 (lv_at hl 1 rfl) ?_
            refine lv_ifnull hx hb dX3_join_38 ?_
            refine lv_aload hx hb dX3_join_41 (lv_at hl 0 rfl) ?_
            refine lv_ifnonnull (tgt := 48) hx hb dX3_join_43 (by decide) ?_
            refine lv_iload_n hx hb dX3_join_48 rfl (lv_at hl 4 rfl) ?_
            refine lv_iconst (v := 3) hx hb dX3_join_49 (by decide) ?_
            refine lv_icmp_eq (tgt := 69) hx hb dX3_join_50 (by decide) (fun c_24 => ?_) (fun c_24 => ?_)
            · refine lv_aload hx hb dX3_join_69 (lv_at hl 0 rfl) ?_
              refine lv_aload hx hb dX3_join_71 (lv_at hl 2 rfl) ?_
              refine og_getN (C := RX1) (T := TX1) (N := 2) (g := 5) (i := x2.toNatClampNeg) (v := .ref (ad 1 (st.2.2 (x2.toNatClampNeg + 1)))) hx hb hts li_X3_join_X1 hown hC hP (ow_m5 (setN_b c_1)) rfl rfl 0 (by decide) ln_X3_join_0 rfl rfl dX3_join_73 ?_
              refine lv_iload_n hx hb dX3_join_76 rfl (lv_at hl 4 rfl) ?_
              refine lv_aload hx hb dX3_join_77 (lv_at hl 2 rfl) ?_
              refine lv_aload hx hb dX3_join_79 (lv_at hl 1 rfl) ?_
              refine og_ciP (og_runS (As := [.int x1, .ref (ad 5 x2.toNatClampNeg), .ref (ad 5 x3.toNatClampNeg)]) (rest := [.ref (ad 1 (st.2.2 (x2.toNatClampNeg + 1))), .ref (ad 5 x4.toNatClampNeg)]) ⟨hx, hb, hml, hown, hts⟩ (kX3_joined l D ca ad A st x1 x2.toNatClampNeg (setN_b c_1) x3.toNatClampNeg (setN_b c_13) (hsk _ (setN_b c_1))) (va_cwS 3 hts gX3_join_X3_joined rfl rfl rfl (by decide +kernel) ⟨Nat.le_of_ble_eq_true rfl, Nat.le_of_ble_eq_true rfl⟩) hC hP hS rfl hl.1 rfl (Nat.le_of_ble_eq_true rfl) dX3_join_81 ⟨Nat.zero_le _, Nat.zero_le _⟩) hS (fun H locs hP hS => ?_)
              refine og_cvW (og_runVN (C := RX1) (T := TX1) (N := 2) (g := 5) (i := x4.toNatClampNeg) (As := [.ref (ad 1 (st.2.2 (x2.toNatClampNeg + 1))), .int (fX3_joined st x1 x2.toNatClampNeg x3.toNatClampNeg)]) (rest := []) ⟨hx, hb, hml, hown, hts⟩ (kX1_become l D ca ad A st x4.toNatClampNeg (setN_b c_19) (st.2.2 (x2.toNatClampNeg + 1)) (fX3_joined st x1 x2.toNatClampNeg x3.toNatClampNeg)) ⟨va_cnB 2 hts gX3_join_X1_become_n136 rfl rfl rfl (hC.2.2.1 _ ln_X3_join_2) (hts _ lk_X3_join_3) (by decide +kernel) ⟨Nat.le_of_ble_eq_true rfl, Nat.le_of_ble_eq_true rfl⟩, (hts _ lk_X3_join_4), (hts _ lk_X3_join_5)⟩ hC hP hS (ow_m5 (setN_b c_19)) rfl rfl rfl hl.1 rfl (Nat.le_of_ble_eq_true rfl) dX3_join_84 ⟨Nat.zero_le _, Nat.zero_le _⟩) hS (fun H locs hP hS => ?_)
              obtain ⟨st25, e25⟩ : ∃ z, z = (fX1_become st x4.toNatClampNeg (st.2.2 (x2.toNatClampNeg + 1)) (fX3_joined st x1 x2.toNatClampNeg x3.toNatClampNeg)) := ⟨_, rfl⟩
              rw [← e25] at hP
              refine lv_aload hx hb dX3_join_87 (lv_at hl 0 rfl) ?_
              refine og_ciP (og_runVN (C := RX1) (T := TX1) (N := 2) (g := 5) (i := x4.toNatClampNeg) (As := []) (rest := []) ⟨hx, hb, hml, hown, hts⟩ (kX1_size l D ca ad A st25 x4.toNatClampNeg (setN_b c_19)) ⟨va_cnB 0 hts gX3_join_X1_size_n132 rfl rfl rfl (hC.2.2.1 _ ln_X3_join_6) (hts _ lk_X3_join_3) (by decide +kernel) ⟨Nat.le_of_ble_eq_true rfl, Nat.le_of_ble_eq_true rfl⟩, (hts _ lk_X3_join_7), (hts _ lk_X3_join_8)⟩ hC hP hS (ow_m5 (setN_b c_19)) rfl rfl rfl hl.1 rfl (Nat.le_of_ble_eq_true rfl) dX3_join_89 ⟨Nat.zero_le _, Nat.zero_le _⟩) hS (fun H locs hP hS => ?_)
              exact W.iret (v := (fX1_size st25 x4.toNatClampNeg)) hx hb hr (fun t ht hW => ⟨⟨(fX1_size st25 x4.toNatClampNeg), st25, rfl, (by subst e25; simp only [fX3_join, if_neg c_1, if_neg c_13, if_neg c_19, if_neg c_22, if_neg c_23, if_pos c_24]), ow_Bi ht hP⟩, hS.F ht⟩) hS.2.2 dX3_join_92
            · refine lv_aload hx hb dX3_join_53 (lv_at hl 2 rfl) ?_
              refine og_getN (C := RX1) (T := TX1) (N := 2) (g := 5) (i := x2.toNatClampNeg) (v := .ref (ad 1 (st.2.2 (x2.toNatClampNeg + 1)))) hx hb hts li_X3_join_X1 hown hC hP (ow_m5 (setN_b c_1)) rfl rfl 0 (by decide) ln_X3_join_0 rfl rfl dX3_join_55 ?_
              refine lv_aload hx hb dX3_join_58 (lv_at hl 1 rfl) ?_
              refine og_getN (C := RX1) (T := TX1) (N := 2) (g := 5) (i := x3.toNatClampNeg) (v := .ref (ad 1 (st.2.2 (x3.toNatClampNeg + 1)))) hx hb hts li_X3_join_X1 hown hC hP (ow_m5 (setN_b c_13)) rfl rfl 0 (by decide) ln_X3_join_0 rfl rfl dX3_join_60 ?_
              by_cases c_26 : (st.2.2 (x2.toNatClampNeg + 1)) = (st.2.2 (x3.toNatClampNeg + 1))
              · refine lv_acmp_eq (rx := some (ad 1 (st.2.2 (x2.toNatClampNeg + 1)))) (ry := some (ad 1 (st.2.2 (x3.toNatClampNeg + 1)))) (tgt := 69) hx hb dX3_join_63 (by decide) (fun _ => ?_) (fun c => absurd (congrArg some (congrArg (ad 1) c_26)) c)
                refine lv_aload hx hb dX3_join_69 (lv_at hl 0 rfl) ?_
                refine lv_aload hx hb dX3_join_71 (lv_at hl 2 rfl) ?_
                refine og_getN (C := RX1) (T := TX1) (N := 2) (g := 5) (i := x2.toNatClampNeg) (v := .ref (ad 1 (st.2.2 (x2.toNatClampNeg + 1)))) hx hb hts li_X3_join_X1 hown hC hP (ow_m5 (setN_b c_1)) rfl rfl 0 (by decide) ln_X3_join_0 rfl rfl dX3_join_73 ?_
                refine lv_iload_n hx hb dX3_join_76 rfl (lv_at hl 4 rfl) ?_
                refine lv_aload hx hb dX3_join_77 (lv_at hl 2 rfl) ?_
                refine lv_aload hx hb dX3_join_79 (lv_at hl 1 rfl) ?_
                refine og_ciP (og_runS (As := [.int x1, .ref (ad 5 x2.toNatClampNeg), .ref (ad 5 x3.toNatClampNeg)]) (rest := [.ref (ad 1 (st.2.2 (x2.toNatClampNeg + 1))), .ref (ad 5 x4.toNatClampNeg)]) ⟨hx, hb, hml, hown, hts⟩ (kX3_joined l D ca ad A st x1 x2.toNatClampNeg (setN_b c_1) x3.toNatClampNeg (setN_b c_13) (hsk _ (setN_b c_1))) (va_cwS 3 hts gX3_join_X3_joined rfl rfl rfl (by decide +kernel) ⟨Nat.le_of_ble_eq_true rfl, Nat.le_of_ble_eq_true rfl⟩) hC hP hS rfl hl.1 rfl (Nat.le_of_ble_eq_true rfl) dX3_join_81 ⟨Nat.zero_le _, Nat.zero_le _⟩) hS (fun H locs hP hS => ?_)
                refine og_cvW (og_runVN (C := RX1) (T := TX1) (N := 2) (g := 5) (i := x4.toNatClampNeg) (As := [.ref (ad 1 (st.2.2 (x2.toNatClampNeg + 1))), .int (fX3_joined st x1 x2.toNatClampNeg x3.toNatClampNeg)]) (rest := []) ⟨hx, hb, hml, hown, hts⟩ (kX1_become l D ca ad A st x4.toNatClampNeg (setN_b c_19) (st.2.2 (x2.toNatClampNeg + 1)) (fX3_joined st x1 x2.toNatClampNeg x3.toNatClampNeg)) ⟨va_cnB 2 hts gX3_join_X1_become_n136 rfl rfl rfl (hC.2.2.1 _ ln_X3_join_2) (hts _ lk_X3_join_3) (by decide +kernel) ⟨Nat.le_of_ble_eq_true rfl, Nat.le_of_ble_eq_true rfl⟩, (hts _ lk_X3_join_4), (hts _ lk_X3_join_5)⟩ hC hP hS (ow_m5 (setN_b c_19)) rfl rfl rfl hl.1 rfl (Nat.le_of_ble_eq_true rfl) dX3_join_84 ⟨Nat.zero_le _, Nat.zero_le _⟩) hS (fun H locs hP hS => ?_)
                obtain ⟨st27, e27⟩ : ∃ z, z = (fX1_become st x4.toNatClampNeg (st.2.2 (x2.toNatClampNeg + 1)) (fX3_joined st x1 x2.toNatClampNeg x3.toNatClampNeg)) := ⟨_, rfl⟩
                rw [← e27] at hP
                refine lv_aload hx hb dX3_join_87 (lv_at hl 0 rfl) ?_
                refine og_ciP (og_runVN (C := RX1) (T := TX1) (N := 2) (g := 5) (i := x4.toNatClampNeg) (As := []) (rest := []) ⟨hx, hb, hml, hown, hts⟩ (kX1_size l D ca ad A st27 x4.toNatClampNeg (setN_b c_19)) ⟨va_cnB 0 hts gX3_join_X1_size_n132 rfl rfl rfl (hC.2.2.1 _ ln_X3_join_6) (hts _ lk_X3_join_3) (by decide +kernel) ⟨Nat.le_of_ble_eq_true rfl, Nat.le_of_ble_eq_true rfl⟩, (hts _ lk_X3_join_7), (hts _ lk_X3_join_8)⟩ hC hP hS (ow_m5 (setN_b c_19)) rfl rfl rfl hl.1 rfl (Nat.le_of_ble_eq_true rfl) dX3_join_89 ⟨Nat.zero_le _, Nat.zero_le _⟩) hS (fun H locs hP hS => ?_)
                exact W.iret (v := (fX1_size st27 x4.toNatClampNeg)) hx hb hr (fun t ht hW => ⟨⟨(fX1_size st27 x4.toNatClampNeg), st27, rfl, (by subst e27; simp only [fX3_join, if_neg c_1, if_neg c_13, if_neg c_19, if_neg c_22, if_neg c_23, if_neg c_24, if_pos c_26]), ow_Bi ht hP⟩, hS.F ht⟩) hS.2.2 dX3_join_92
              · refine lv_acmp_eq (rx := some (ad 1 (st.2.2 (x2.toNatClampNeg + 1)))) (ry := some (ad 1 (st.2.2 (x3.toNatClampNeg + 1)))) (tgt := 69) hx hb dX3_join_63 (by decide) (fun c => absurd c (fun h => c_26 (ow_inj hC.2.1 (ow_m1 (hsk _ (setN_b c_1))) (ow_m1 (hsk _ (setN_b c_13))) (Option.some.inj h)).2)) (fun _ => ?_)
                refine lv_bipush (v := (-3)) hx hb dX3_join_66 (by decide) ?_
                exact W.iret (v := (-3)) hx hb hr (fun t ht hW => ⟨⟨(-3), st, rfl, (by simp only [fX3_join, if_neg c_1, if_neg c_13, if_neg c_19, if_neg c_22, if_neg c_23, if_neg c_24, if_neg c_26]), ow_Bi ht hP⟩, hS.F ht⟩) hS.2.2 dX3_join_68

theorem ln_X3_member_0 : (.fieldLinkNest RX3 140 "RecordLabels$LabelSet" "kind" "LRecordLabels$Kind;" "RecordLabels" : Cond) ∈ ow_nest := by decide +kernel
theorem li_X3_member_X1 : ∀ w ∈ u_ws RX1 TX1 2, w ∈ wsX3_member := by decide +kernel
theorem ln_X3_member_2 : (.fieldLinkNest RX3 153 "RecordLabels$Kind" "size" "I" "RecordLabels" : Cond) ∈ ow_nest := by decide +kernel
theorem li_X3_member_X0 : ∀ w ∈ u_ws RX0 TX0 7, w ∈ wsX3_member := by decide +kernel
theorem ln_X3_member_4 : (.methodLinkNest RX3 94 yX0_constantOf "RecordLabels" : Cond) ∈ ow_nest := by decide +kernel
theorem lk_X3_member_5 : (.initialized RX0 : Cond) ∈ wsX3_member := by decide +kernel
theorem lk_X3_member_6 : (.instanceMethod yX0_constantOf : Cond) ∈ wsX3_member := by decide +kernel
theorem lk_X3_member_7 : (.selects RX0 yX0_constantOf yX0_constantOf : Cond) ∈ wsX3_member := by decide +kernel
theorem ln_X3_member_8 : (.methodLinkNest RX3 143 yX1_holds "RecordLabels" : Cond) ∈ ow_nest := by decide +kernel
theorem lk_X3_member_9 : (.initialized RX1 : Cond) ∈ wsX3_member := by decide +kernel
theorem lk_X3_member_10 : (.instanceMethod yX1_holds : Cond) ∈ wsX3_member := by decide +kernel
theorem lk_X3_member_11 : (.selects RX1 yX1_holds yX1_holds : Cond) ∈ wsX3_member := by decide +kernel
def flX3_member (st : ow_St) (x1 x2 : Int32) : Nat → Nat → Int32 → Int32
  | 0, _, _ => 0
  | n + 1, i, w4 => (if (nI (mn (st.2.2 (x1.toNatClampNeg + 1)))) ≤ (nI i) then (-4) else (if (fX1_holds st x1.toNatClampNeg (fX0_constantOf st (st.2.2 (x1.toNatClampNeg + 1)) (nI i))) = 0 then (flX3_member st x1 x2 n (i + 1) w4 ) else (if w4 = x2 then (nI i) else (flX3_member st x1 x2 n (i + 1) (w4 + 1) ))))
def fX3_member (st : ow_St) (x1 x2 : Int32) : Int32 := (if x1 < 0 ∨ 10 ≤ x1 then (-1) else (flX3_member st x1 x2 ((mn (st.2.2 (x1.toNatClampNeg + 1))) + 1) 0 (0 : Int32) ))
set_option maxHeartbeats 4000000 in
set_option maxRecDepth 100000 in
theorem kX3_member (l : Launch) (D : va_G) (ca : Nat → ClassId) (ad : ow_Ad) (A : Nat → Prop) (st : ow_St) (x1 : Int32) (x2 : Int32) (hsk : iv_sk st) : Met l yX3_member wsX3_member ({ frames := 2, cells := 0, slots := 0, locals := 42 }) (va_Pc [.ref (ad 0 0), .int x1, .int x2] (ow_W D ca ad A st)) (va_Qi (fun r st' => r = (fX3_member st x1 x2) ∧ st' = st) (ow_B D ca ad) A) 0 0 A := by
  refine Met.ofW (cc := cX3_member) (maxL := 6) (ret := (some .int)) (by decide) rfl ?_
  intro p e s m args below meth c s₁ B hml hv
  obtain ⟨rfl, hP, hC⟩ := hv
  have hx := B.exec
  have hb := B.bytes
  have hr := B.returns
  have hts := atoms_spec (ws := wsX3_member) B.pre
  have hown : s.vm.findClass RX3 = some m.cls := findClass_of_methodNamed B.named
  have hlocks := B.notSynchronized
  have hS : va_S A s.heap s.heap [] := va_S.rf
  have hl := lv_entry ([.ref (ad 0 0), .int x1, .int x2]) (n := 6) (Nat.le_of_ble_eq_true rfl)
  rw [lg_entry_eq]
  generalize (lg_sl ([.ref (ad 0 0), .int x1, .int x2]) ++ List.replicate (6 - (lg_sl ([.ref (ad 0 0), .int x1, .int x2])).length) Slot.unset).toArray = ls at hl ⊢
  have hl : lv_has ls 6 [(0, .ref (ad 0 0)), (1, .int x1), (2, .int x2)] := hl
  refine lv_aload_n hx hb dX3_member_0 rfl (lv_at hl 0 rfl) ?_
  refine lv_iload_n hx hb dX3_member_1 rfl (lv_at hl 1 rfl) ?_
  by_cases c_1 : x1 < 0 ∨ 10 ≤ x1
  · refine og_cqN (og_runV (C := RX3) (T := TX3) (N := 14) (g := 0) (i := 0) (As := [.int x1]) (rest := []) ⟨hx, hb, hml, hown, hts⟩ (kX3_setNumbered l D ca ad A st x1) (cwV 1 hts gX3_member_X3_setNumbered rfl rfl rfl (by decide +kernel) ⟨Nat.le_of_ble_eq_true rfl, Nat.le_of_ble_eq_true rfl⟩) hC hP hS (ow_q0_0) rfl rfl rfl hl.1 rfl (Nat.le_of_ble_eq_true rfl) dX3_member_2 ⟨Nat.zero_le _, Nat.zero_le _⟩) hS (setN_none c_1) (fun H locs hP hS => ?_)
    refine lv_astore_nN (lv' := [(3, .null), (0, .ref (ad 0 0)), (1, .int x1), (2, .int x2)]) hx hb dX3_member_5 rfl hl (by decide) rfl (fun ls hl => ?_)
    refine lv_aload_nN hx hb dX3_member_6 rfl (lv_at hl 0 rfl) ?_
    refine lv_ifnonnullN hx hb dX3_member_7 ?_
    refine lv_iconst (v := (-1)) hx hb dX3_member_10 (by decide) ?_
    exact W.iret (v := (-1)) hx hb hr (fun t ht hW => ⟨⟨(-1), st, rfl, ⟨(by simp only [fX3_member, if_pos c_1]), rfl⟩, ow_Bi ht hP⟩, hS.F ht⟩) hS.2.2 dX3_member_11
  · refine og_cqS (q := ad 5 x1.toNatClampNeg) (og_runV (C := RX3) (T := TX3) (N := 14) (g := 0) (i := 0) (As := [.int x1]) (rest := []) ⟨hx, hb, hml, hown, hts⟩ (kX3_setNumbered l D ca ad A st x1) (cwV 1 hts gX3_member_X3_setNumbered rfl rfl rfl (by decide +kernel) ⟨Nat.le_of_ble_eq_true rfl, Nat.le_of_ble_eq_true rfl⟩) hC hP hS (ow_q0_0) rfl rfl rfl hl.1 rfl (Nat.le_of_ble_eq_true rfl) dX3_member_2 ⟨Nat.zero_le _, Nat.zero_le _⟩) hS (setN_some c_1) (fun H locs hP hS => ?_)
    refine lv_astore_n (lv' := [(3, .ref (ad 5 x1.toNatClampNeg)), (0, .ref (ad 0 0)), (1, .int x1), (2, .int x2)]) hx hb dX3_member_5 rfl hl (by decide) rfl (fun ls hl => ?_)
    refine lv_aload_n hx hb dX3_member_6 rfl (lv_at hl 0 rfl) ?_
    refine lv_ifnonnull (tgt := 12) hx hb dX3_member_7 (by decide) ?_
    refine lv_iconst (v := 0) hx hb dX3_member_12 (by decide) ?_
    refine lv_istore (lv' := [(4, .int 0), (3, .ref (ad 5 x1.toNatClampNeg)), (0, .ref (ad 0 0)), (1, .int x1), (2, .int x2)]) hx hb dX3_member_13 hl (by decide) rfl (fun ls hl => ?_)
    refine lv_iconst (v := 0) hx hb dX3_member_15 (by decide) ?_
    refine lv_istore (lv' := [(5, .int 0), (4, .int 0), (3, .ref (ad 5 x1.toNatClampNeg)), (0, .ref (ad 0 0)), (1, .int x1), (2, .int x2)]) hx hb dX3_member_16 hl (by decide) rfl (fun ls hl => ?_)
    have loop : ∀ (n i : Nat) (w4 : Int32) (H : Heap) (locs : List Loc) (ls : Array Slot), i ≤ (mn (st.2.2 (x1.toNatClampNeg + 1))) → (mn (st.2.2 (x1.toNatClampNeg + 1))) < i + n → flX3_member st x1 x2 n i w4 = (fX3_member st x1 x2) → va_P D vwCl (ow_ws ad (ow_c ca ad st)) H → va_S A s.heap H locs → lv_has ls 6 [(5, .int (nI i)), (4, .int w4), (3, .ref (ad 5 x1.toNatClampNeg)), (0, .ref (ad 0 0)), (1, .int x1), (2, .int x2)] → W p l e (headSpec wsX3_member ({ frames := 2, cells := 0, slots := 0, locals := 42 } : Room)).room s m ([.ref (ad 0 0), .int x1, .int x2] : List Value).toArray below meth c H locs 0 0 (MQ below (va_Qi (fun r st' => r = (fX3_member st x1 x2) ∧ st' = st) (ow_B D ca ad) A) ([.ref (ad 0 0), .int x1, .int x2] : List Value).toArray s 0 0 A) (F0 m 18 ls []) := by
      intro n
      induction n with
      | zero => intro i w4 H locs ls h1 h2; exact absurd h2 (by omega)
      | succ n ih =>
        intro i w4 H locs ls hle hlt  heq hP hS hl
        refine lv_iload hx hb dX3_member_18 (lv_at hl 0 rfl) ?_
        refine lv_aload_n hx hb dX3_member_20 rfl (lv_at hl 2 rfl) ?_
        refine og_getN (C := RX1) (T := TX1) (N := 2) (g := 5) (i := x1.toNatClampNeg) (v := .ref (ad 1 (st.2.2 (x1.toNatClampNeg + 1)))) hx hb hts li_X3_member_X1 hown hC hP (ow_m5 (setN_b c_1)) rfl rfl 0 (by decide) ln_X3_member_0 rfl rfl dX3_member_21 ?_
        refine og_getN (C := RX0) (T := TX0) (N := 7) (g := 1) (i := (st.2.2 (x1.toNatClampNeg + 1))) (v := .int (nI (mn (st.2.2 (x1.toNatClampNeg + 1))))) hx hb hts li_X3_member_X0 hown hC hP (ow_m1 (hsk _ (setN_b c_1))) rfl rfl 2 (by decide) ln_X3_member_2 rfl rfl dX3_member_24 ?_
        refine lv_icmp_ge (tgt := 64) hx hb dX3_member_27 (by decide) (fun c_2 => ?_) (fun c_2 => ?_)
        · refine lv_bipush (v := (-4)) hx hb dX3_member_64 (by decide) ?_
          exact W.iret (v := (-4)) hx hb hr (fun t ht hW => ⟨⟨(-4), st, rfl, ⟨(by rw [← heq]; simp only [flX3_member, if_pos c_2]), rfl⟩, ow_Bi ht hP⟩, hS.F ht⟩) hS.2.2 dX3_member_66
        · refine lv_aload_n hx hb dX3_member_30 rfl (lv_at hl 2 rfl) ?_
          refine lv_aload_n hx hb dX3_member_31 rfl (lv_at hl 2 rfl) ?_
          refine og_getN (C := RX1) (T := TX1) (N := 2) (g := 5) (i := x1.toNatClampNeg) (v := .ref (ad 1 (st.2.2 (x1.toNatClampNeg + 1)))) hx hb hts li_X3_member_X1 hown hC hP (ow_m5 (setN_b c_1)) rfl rfl 0 (by decide) ln_X3_member_0 rfl rfl dX3_member_32 ?_
          refine lv_iload hx hb dX3_member_35 (lv_at hl 0 rfl) ?_
          refine og_ciP (og_runVN (C := RX0) (T := TX0) (N := 7) (g := 1) (i := (st.2.2 (x1.toNatClampNeg + 1))) (As := [.int (nI i)]) (rest := [.ref (ad 5 x1.toNatClampNeg)]) ⟨hx, hb, hml, hown, hts⟩ (kX0_constantOf l D ca ad A st (st.2.2 (x1.toNatClampNeg + 1)) (hsk _ (setN_b c_1)) (nI i)) ⟨va_cnB 1 hts gX3_member_X0_constantOf_n94 rfl rfl rfl (hC.2.2.1 _ ln_X3_member_4) (hts _ lk_X3_member_5) (by decide +kernel) ⟨Nat.le_of_ble_eq_true rfl, Nat.le_of_ble_eq_true rfl⟩, (hts _ lk_X3_member_6), (hts _ lk_X3_member_7)⟩ hC hP hS (ow_m1 (hsk _ (setN_b c_1))) rfl rfl rfl hl.1 rfl (Nat.le_of_ble_eq_true rfl) dX3_member_37 ⟨Nat.zero_le _, Nat.zero_le _⟩) hS (fun H locs hP hS => ?_)
          refine og_ciP (og_runVN (C := RX1) (T := TX1) (N := 2) (g := 5) (i := x1.toNatClampNeg) (As := [.int (fX0_constantOf st (st.2.2 (x1.toNatClampNeg + 1)) (nI i))]) (rest := []) ⟨hx, hb, hml, hown, hts⟩ (kX1_holds l D ca ad A st x1.toNatClampNeg (setN_b c_1) (hsk _ (setN_b c_1)) (fX0_constantOf st (st.2.2 (x1.toNatClampNeg + 1)) (nI i))) ⟨va_cnB 1 hts gX3_member_X1_holds_n143 rfl rfl rfl (hC.2.2.1 _ ln_X3_member_8) (hts _ lk_X3_member_9) (by decide +kernel) ⟨Nat.le_of_ble_eq_true rfl, Nat.le_of_ble_eq_true rfl⟩, (hts _ lk_X3_member_10), (hts _ lk_X3_member_11)⟩ hC hP hS (ow_m5 (setN_b c_1)) rfl rfl rfl hl.1 rfl (Nat.le_of_ble_eq_true rfl) dX3_member_40 ⟨Nat.zero_le _, Nat.zero_le _⟩) hS (fun H locs hP hS => ?_)
          refine lv_if_eq (tgt := 58) hx hb dX3_member_43 (by decide) (fun c_3 => ?_) (fun c_3 => ?_)
          · refine lv_iinc (v := (nI (i + 1))) (lv' := [(5, .int (nI (i + 1))), (4, .int w4), (3, .ref (ad 5 x1.toNatClampNeg)), (0, .ref (ad 0 0)), (1, .int x1), (2, .int x2)]) hx hb dX3_member_58 hl (k := 0) rfl (nI_1 _) (by decide) rfl (fun ls hl => ?_)
            refine lv_goto (tgt := 18) hx hb dX3_member_61 (by decide) ?_
            exact ih (i + 1) w4  _ _ _ (ow_lt c_2 hle (ow_mn _)) (by omega)  (by rw [← heq]; simp only [flX3_member, if_neg c_2, if_pos c_3]) hP hS (lv_sub hl [0, 1, 2, 3, 4, 5] rfl)
          · refine lv_iload hx hb dX3_member_46 (lv_at hl 1 rfl) ?_
            refine lv_iload_n hx hb dX3_member_48 rfl (lv_at hl 5 rfl) ?_
            refine lv_icmp_ne (tgt := 55) hx hb dX3_member_49 (by decide) (fun c_4 => ?_) (fun c_4 => ?_)
            · refine lv_iinc (v := (w4 + 1)) (lv' := [(4, .int (w4 + 1)), (5, .int (nI i)), (3, .ref (ad 5 x1.toNatClampNeg)), (0, .ref (ad 0 0)), (1, .int x1), (2, .int x2)]) hx hb dX3_member_55 hl (k := 1) rfl rfl (by decide) rfl (fun ls hl => ?_)
              refine lv_iinc (v := (nI (i + 1))) (lv' := [(5, .int (nI (i + 1))), (4, .int (w4 + 1)), (3, .ref (ad 5 x1.toNatClampNeg)), (0, .ref (ad 0 0)), (1, .int x1), (2, .int x2)]) hx hb dX3_member_58 hl (k := 1) rfl (nI_1 _) (by decide) rfl (fun ls hl => ?_)
              refine lv_goto (tgt := 18) hx hb dX3_member_61 (by decide) ?_
              exact ih (i + 1) (w4 + 1)  _ _ _ (ow_lt c_2 hle (ow_mn _)) (by omega)  (by rw [← heq]; simp only [flX3_member, if_neg c_2, if_neg c_3, if_neg c_4]) hP hS (lv_sub hl [0, 1, 2, 3, 4, 5] rfl)
            · refine lv_iload hx hb dX3_member_52 (lv_at hl 0 rfl) ?_
              exact W.iret (v := (nI i)) hx hb hr (fun t ht hW => ⟨⟨(nI i), st, rfl, ⟨(by rw [← heq]; simp only [flX3_member, if_neg c_2, if_neg c_3, if_pos c_4]), rfl⟩, ow_Bi ht hP⟩, hS.F ht⟩) hS.2.2 dX3_member_54
    exact loop ((mn (st.2.2 (x1.toNatClampNeg + 1))) + 1) 0 (0 : Int32)  _ _ _ (Nat.zero_le _) (by omega)  (by simp only [fX3_member, if_neg c_1]) hP hS (lv_sub hl [0, 1, 2, 3, 4, 5] rfl)

theorem ln_X3_about_0 : (.methodLinkNest RX3 132 yX1_size "RecordLabels" : Cond) ∈ ow_nest := by decide +kernel
theorem lk_X3_about_1 : (.initialized RX1 : Cond) ∈ wsX3_about := by decide +kernel
theorem lk_X3_about_2 : (.instanceMethod yX1_size : Cond) ∈ wsX3_about := by decide +kernel
theorem lk_X3_about_3 : (.selects RX1 yX1_size yX1_size : Cond) ∈ wsX3_about := by decide +kernel
theorem ln_X3_about_4 : (.fieldLinkNest RX3 140 "RecordLabels$LabelSet" "kind" "LRecordLabels$Kind;" "RecordLabels" : Cond) ∈ ow_nest := by decide +kernel
theorem li_X3_about_X1 : ∀ w ∈ u_ws RX1 TX1 2, w ∈ wsX3_about := by decide +kernel
theorem ln_X3_about_6 : (.fieldLinkNest RX3 155 "RecordLabels$Kind" "number" "I" "RecordLabels" : Cond) ∈ ow_nest := by decide +kernel
theorem li_X3_about_X0 : ∀ w ∈ u_ws RX0 TX0 7, w ∈ wsX3_about := by decide +kernel
def fX3_about (st : ow_St) (x1 x2 : Int32) : Int32 := (if x1 < 0 ∨ 10 ≤ x1 then (-1) else (if x2 = 0 then (fX1_size st x1.toNatClampNeg) else (if x2 = 1 then (nI (st.2.2 (x1.toNatClampNeg + 1))) else (-1))))
set_option maxHeartbeats 4000000 in
set_option maxRecDepth 100000 in
theorem kX3_about (l : Launch) (D : va_G) (ca : Nat → ClassId) (ad : ow_Ad) (A : Nat → Prop) (st : ow_St) (x1 : Int32) (x2 : Int32) (hsk : iv_sk st) : Met l yX3_about wsX3_about ({ frames := 2, cells := 0, slots := 0, locals := 40 }) (va_Pc [.ref (ad 0 0), .int x1, .int x2] (ow_W D ca ad A st)) (va_Qi (fun r st' => r = (fX3_about st x1 x2) ∧ st' = st) (ow_B D ca ad) A) 0 0 A := by
  refine Met.ofW (cc := cX3_about) (maxL := 4) (ret := (some .int)) (by decide) rfl ?_
  intro p e s m args below meth c s₁ B hml hv
  obtain ⟨rfl, hP, hC⟩ := hv
  have hx := B.exec
  have hb := B.bytes
  have hr := B.returns
  have hts := atoms_spec (ws := wsX3_about) B.pre
  have hown : s.vm.findClass RX3 = some m.cls := findClass_of_methodNamed B.named
  have hlocks := B.notSynchronized
  have hS : va_S A s.heap s.heap [] := va_S.rf
  have hl := lv_entry ([.ref (ad 0 0), .int x1, .int x2]) (n := 4) (Nat.le_of_ble_eq_true rfl)
  rw [lg_entry_eq]
  generalize (lg_sl ([.ref (ad 0 0), .int x1, .int x2]) ++ List.replicate (4 - (lg_sl ([.ref (ad 0 0), .int x1, .int x2])).length) Slot.unset).toArray = ls at hl ⊢
  have hl : lv_has ls 4 [(0, .ref (ad 0 0)), (1, .int x1), (2, .int x2)] := hl
  refine lv_aload_n hx hb dX3_about_0 rfl (lv_at hl 0 rfl) ?_
  refine lv_iload_n hx hb dX3_about_1 rfl (lv_at hl 1 rfl) ?_
  by_cases c_1 : x1 < 0 ∨ 10 ≤ x1
  · refine og_cqN (og_runV (C := RX3) (T := TX3) (N := 14) (g := 0) (i := 0) (As := [.int x1]) (rest := []) ⟨hx, hb, hml, hown, hts⟩ (kX3_setNumbered l D ca ad A st x1) (cwV 1 hts gX3_about_X3_setNumbered rfl rfl rfl (by decide +kernel) ⟨Nat.le_of_ble_eq_true rfl, Nat.le_of_ble_eq_true rfl⟩) hC hP hS (ow_q0_0) rfl rfl rfl hl.1 rfl (Nat.le_of_ble_eq_true rfl) dX3_about_2 ⟨Nat.zero_le _, Nat.zero_le _⟩) hS (setN_none c_1) (fun H locs hP hS => ?_)
    refine lv_astore_nN (lv' := [(3, .null), (0, .ref (ad 0 0)), (1, .int x1), (2, .int x2)]) hx hb dX3_about_5 rfl hl (by decide) rfl (fun ls hl => ?_)
    refine lv_aload_nN hx hb dX3_about_6 rfl (lv_at hl 0 rfl) ?_
    refine lv_ifnonnullN hx hb dX3_about_7 ?_
    refine lv_iconst (v := (-1)) hx hb dX3_about_10 (by decide) ?_
    exact W.iret (v := (-1)) hx hb hr (fun t ht hW => ⟨⟨(-1), st, rfl, ⟨(by simp only [fX3_about, if_pos c_1]), rfl⟩, ow_Bi ht hP⟩, hS.F ht⟩) hS.2.2 dX3_about_11
  · refine og_cqS (q := ad 5 x1.toNatClampNeg) (og_runV (C := RX3) (T := TX3) (N := 14) (g := 0) (i := 0) (As := [.int x1]) (rest := []) ⟨hx, hb, hml, hown, hts⟩ (kX3_setNumbered l D ca ad A st x1) (cwV 1 hts gX3_about_X3_setNumbered rfl rfl rfl (by decide +kernel) ⟨Nat.le_of_ble_eq_true rfl, Nat.le_of_ble_eq_true rfl⟩) hC hP hS (ow_q0_0) rfl rfl rfl hl.1 rfl (Nat.le_of_ble_eq_true rfl) dX3_about_2 ⟨Nat.zero_le _, Nat.zero_le _⟩) hS (setN_some c_1) (fun H locs hP hS => ?_)
    refine lv_astore_n (lv' := [(3, .ref (ad 5 x1.toNatClampNeg)), (0, .ref (ad 0 0)), (1, .int x1), (2, .int x2)]) hx hb dX3_about_5 rfl hl (by decide) rfl (fun ls hl => ?_)
    refine lv_aload_n hx hb dX3_about_6 rfl (lv_at hl 0 rfl) ?_
    refine lv_ifnonnull (tgt := 12) hx hb dX3_about_7 (by decide) ?_
    refine lv_iload_n hx hb dX3_about_12 rfl (lv_at hl 3 rfl) ?_
    by_cases c_2 : x2 = 0
    · refine lv_lookup (tgt := 40) (off := 27) hx hb dX3_about_13 (by decide) (by rw [c_2]; decide) (by decide) ?_
      refine lv_aload_n hx hb dX3_about_40 rfl (lv_at hl 0 rfl) ?_
      refine og_ciP (og_runVN (C := RX1) (T := TX1) (N := 2) (g := 5) (i := x1.toNatClampNeg) (As := []) (rest := []) ⟨hx, hb, hml, hown, hts⟩ (kX1_size l D ca ad A st x1.toNatClampNeg (setN_b c_1)) ⟨va_cnB 0 hts gX3_about_X1_size_n132 rfl rfl rfl (hC.2.2.1 _ ln_X3_about_0) (hts _ lk_X3_about_1) (by decide +kernel) ⟨Nat.le_of_ble_eq_true rfl, Nat.le_of_ble_eq_true rfl⟩, (hts _ lk_X3_about_2), (hts _ lk_X3_about_3)⟩ hC hP hS (ow_m5 (setN_b c_1)) rfl rfl rfl hl.1 rfl (Nat.le_of_ble_eq_true rfl) dX3_about_41 ⟨Nat.zero_le _, Nat.zero_le _⟩) hS (fun H locs hP hS => ?_)
      exact W.iret (v := (fX1_size st x1.toNatClampNeg)) hx hb hr (fun t ht hW => ⟨⟨(fX1_size st x1.toNatClampNeg), st, rfl, ⟨(by simp only [fX3_about, if_neg c_1, if_pos c_2]), rfl⟩, ow_Bi ht hP⟩, hS.F ht⟩) hS.2.2 dX3_about_44
    · by_cases c_3 : x2 = 1
      · refine lv_lookup (tgt := 45) (off := 32) hx hb dX3_about_13 (by decide) (by rw [c_3]; decide) (by decide) ?_
        refine lv_aload_n hx hb dX3_about_45 rfl (lv_at hl 0 rfl) ?_
        refine og_getN (C := RX1) (T := TX1) (N := 2) (g := 5) (i := x1.toNatClampNeg) (v := .ref (ad 1 (st.2.2 (x1.toNatClampNeg + 1)))) hx hb hts li_X3_about_X1 hown hC hP (ow_m5 (setN_b c_1)) rfl rfl 0 (by decide) ln_X3_about_4 rfl rfl dX3_about_46 ?_
        refine og_getN (C := RX0) (T := TX0) (N := 7) (g := 1) (i := (st.2.2 (x1.toNatClampNeg + 1))) (v := .int (nI (st.2.2 (x1.toNatClampNeg + 1)))) hx hb hts li_X3_about_X0 hown hC hP (ow_m1 (hsk _ (setN_b c_1))) rfl rfl 0 (by decide) ln_X3_about_6 rfl rfl dX3_about_49 ?_
        exact W.iret (v := (nI (st.2.2 (x1.toNatClampNeg + 1)))) hx hb hr (fun t ht hW => ⟨⟨(nI (st.2.2 (x1.toNatClampNeg + 1))), st, rfl, ⟨(by simp only [fX3_about, if_neg c_1, if_neg c_2, if_pos c_3]), rfl⟩, ow_Bi ht hP⟩, hS.F ht⟩) hS.2.2 dX3_about_52
      · refine lv_lookup (tgt := 53) (off := 40) hx hb dX3_about_13 (by decide) (by simp only []; rw [lv_osw (k := 0) (a := 0) c_2 rfl]; rw [lv_osw (k := 1) (a := 1) c_3 rfl]; rfl) (by decide) ?_
        refine lv_iconst (v := (-1)) hx hb dX3_about_53 (by decide) ?_
        exact W.iret (v := (-1)) hx hb hr (fun t ht hW => ⟨⟨(-1), st, rfl, ⟨(by simp only [fX3_about, if_neg c_1, if_neg c_2, if_neg c_3]), rfl⟩, ow_Bi ht hP⟩, hS.F ht⟩) hS.2.2 dX3_about_54

theorem ln_X3_record_0 : (.fieldLinkNest RX3 162 "RecordLabels$Table" "size" "I" "RecordLabels" : Cond) ∈ ow_nest := by decide +kernel
theorem li_X3_record_X2 : ∀ w ∈ u_ws RX2 TX2 5, w ∈ wsX3_record := by decide +kernel
theorem li_X3_record_X3 : ∀ w ∈ u_ws RX3 TX3 14, w ∈ wsX3_record := by decide +kernel
theorem lk_X3_record_3 : (.fieldLink RX3 63 "RecordLabels" "draft" "[I" : Cond) ∈ wsX3_record := by decide +kernel
theorem ln_X3_record_4 : (.fieldLinkNest RX3 171 "RecordLabels$Table" "items" "I" "RecordLabels" : Cond) ∈ ow_nest := by decide +kernel
theorem ln_X3_record_5 : (.fieldLinkNest RX3 174 "RecordLabels$Table" "columns" "[[I" "RecordLabels" : Cond) ∈ ow_nest := by decide +kernel
def fX3_record (st : ow_St) (x1 x2 x3 x4 x5 : Int32) : Int32 × ow_St := (if x1 = 0 then (if (st.1 4 0) < 30 then (let st3 := (ow_si st 103 0 (fX3_toCell_0 st 0 x2)); (let st4 := (ow_si st3 103 1 (fX3_toCell_0 st3 1 x3)); (let st5 := (ow_si st4 103 2 (fX3_toCell_0 st4 2 x4)); (let st6 := (ow_si st5 103 3 (fX3_toCell_0 st5 3 x5)); (let st7 := (fX3_putTogether_0 st6).2; (if (fX3_putTogether_0 st6).1 = 1 then (let st9 := (ow_si st7 102 ((st7.1 4 0).toNatClampNeg) (st7.1 103 0)); (let st10 := (ow_si st9 106 ((st9.1 4 0).toNatClampNeg) (st9.1 103 1)); (let st11 := (ow_si st10 110 ((st10.1 4 0).toNatClampNeg) (st10.1 103 2)); (let st12 := (ow_si st11 4 0 ((st11.1 4 0) + 1)); (((st12.1 4 0) - 1), st12))))) else ((fX3_putTogether_0 st6).1, st7))))))) else ((-2), st)) else (if x1 = 1 then (if (st.1 4 1) < 30 then (let st15 := (ow_si st 103 0 (fX3_toCell_1 st 0 x2)); (let st16 := (ow_si st15 103 1 (fX3_toCell_1 st15 1 x3)); (let st17 := (ow_si st16 103 2 (fX3_toCell_1 st16 2 x4)); (let st18 := (ow_si st17 103 3 (fX3_toCell_1 st17 3 x5)); (let st19 := (fX3_putTogether_1 st18).2; (if (fX3_putTogether_1 st18).1 = 1 then (let st21 := (ow_si st19 118 ((st19.1 4 1).toNatClampNeg) (st19.1 103 0)); (let st22 := (ow_si st21 122 ((st21.1 4 1).toNatClampNeg) (st21.1 103 1)); (let st23 := (ow_si st22 126 ((st22.1 4 1).toNatClampNeg) (st22.1 103 2)); (let st24 := (ow_si st23 130 ((st23.1 4 1).toNatClampNeg) (st23.1 103 3)); (let st25 := (ow_si st24 4 1 ((st24.1 4 1) + 1)); (((st25.1 4 1) - 1), st25)))))) else ((fX3_putTogether_1 st18).1, st19))))))) else ((-2), st)) else ((-1), st)))
set_option maxHeartbeats 4000000 in
set_option maxRecDepth 100000 in
theorem kX3_record (l : Launch) (D : va_G) (ca : Nat → ClassId) (ad : ow_Ad) (A : Nat → Prop) (st : ow_St) (x1 : Int32) (x2 : Int32) (x3 : Int32) (x4 : Int32) (x5 : Int32) (hz0 : iv_sz st 0) (hz1 : iv_sz st 1) : Met l yX3_record wsX3_record ({ frames := 4, cells := 0, slots := 0, locals := 90 }) (va_Pc [.ref (ad 0 0), .int x1, .int x2, .int x3, .int x4, .int x5] (ow_W D ca ad A st)) (va_Qi (fun r st' => (r, st') = (fX3_record st x1 x2 x3 x4 x5)) (ow_B D ca ad) A) 0 0 A := by
  refine Met.ofW (cc := cX3_record) (maxL := 9) (ret := (some .int)) (by decide) rfl ?_
  intro p e s m args below meth c s₁ B hml hv
  obtain ⟨rfl, hP, hC⟩ := hv
  have hx := B.exec
  have hb := B.bytes
  have hr := B.returns
  have hts := atoms_spec (ws := wsX3_record) B.pre
  have hown : s.vm.findClass RX3 = some m.cls := findClass_of_methodNamed B.named
  have hlocks := B.notSynchronized
  have hS : va_S A s.heap s.heap [] := va_S.rf
  have hl := lv_entry ([.ref (ad 0 0), .int x1, .int x2, .int x3, .int x4, .int x5]) (n := 9) (Nat.le_of_ble_eq_true rfl)
  rw [lg_entry_eq]
  generalize (lg_sl ([.ref (ad 0 0), .int x1, .int x2, .int x3, .int x4, .int x5]) ++ List.replicate (9 - (lg_sl ([.ref (ad 0 0), .int x1, .int x2, .int x3, .int x4, .int x5])).length) Slot.unset).toArray = ls at hl ⊢
  have hl : lv_has ls 9 [(0, .ref (ad 0 0)), (1, .int x1), (2, .int x2), (3, .int x3), (4, .int x4), (5, .int x5)] := hl
  refine lv_aload_n hx hb dX3_record_0 rfl (lv_at hl 0 rfl) ?_
  refine lv_iload_n hx hb dX3_record_1 rfl (lv_at hl 1 rfl) ?_
  by_cases c_1 : x1 = 0
  · refine og_cqS (q := ad 6 0) (og_runV (C := RX3) (T := TX3) (N := 14) (g := 0) (i := 0) (As := [.int x1]) (rest := []) ⟨hx, hb, hml, hown, hts⟩ (kX3_tableNumbered l D ca ad A st x1) (cwV 1 hts gX3_record_X3_tableNumbered rfl rfl rfl (by decide +kernel) ⟨Nat.le_of_ble_eq_true rfl, Nat.le_of_ble_eq_true rfl⟩) hC hP hS (ow_q0_0) rfl rfl rfl hl.1 rfl (Nat.le_of_ble_eq_true rfl) dX3_record_2 ⟨Nat.zero_le _, Nat.zero_le _⟩) hS (by simp only [fX3_tableNumbered, if_pos c_1]) (fun H locs hP hS => ?_)
    refine lv_astore (lv' := [(6, .ref (ad 6 0)), (0, .ref (ad 0 0)), (1, .int x1), (2, .int x2), (3, .int x3), (4, .int x4), (5, .int x5)]) hx hb dX3_record_5 hl (by decide) rfl (fun ls hl => ?_)
    refine lv_aload hx hb dX3_record_7 (lv_at hl 0 rfl) ?_
    refine lv_ifnonnull (tgt := 14) hx hb dX3_record_9 (by decide) ?_
    refine lv_aload hx hb dX3_record_14 (lv_at hl 0 rfl) ?_
    refine og_getN (C := RX2) (T := TX2) (N := 5) (g := 6) (i := 0) (v := .int (st.1 4 0)) hx hb hts li_X3_record_X2 hown hC hP (ow_q6_0) rfl rfl 4 (by decide) ln_X3_record_0 rfl rfl dX3_record_16 ?_
    refine lv_bipush (v := 30) hx hb dX3_record_19 (by decide) ?_
    refine lv_icmp_lt (tgt := 27) hx hb dX3_record_21 (by decide) (fun c_2 => ?_) (fun c_2 => ?_)
    · refine lv_aload_n hx hb dX3_record_27 rfl (lv_at hl 1 rfl) ?_
      refine og_get (C := RX3) (T := TX3) (N := 14) (g := 0) (i := 0) (v := .ref (ad 9 0)) hx hb hts li_X3_record_X3 hown hC hP (ow_q0_0) rfl rfl 9 (by decide) (hts _ lk_X3_record_3) rfl rfl dX3_record_28 ?_
      refine lv_iconst (v := 0) hx hb dX3_record_31 (by decide) ?_
      refine lv_aload_n hx hb dX3_record_32 rfl (lv_at hl 1 rfl) ?_
      refine lv_aload hx hb dX3_record_33 (lv_at hl 0 rfl) ?_
      refine lv_iconst (v := 0) hx hb dX3_record_35 (by decide) ?_
      refine lv_iload_n hx hb dX3_record_36 rfl (lv_at hl 3 rfl) ?_
      refine og_ciP (og_runV (C := RX3) (T := TX3) (N := 14) (g := 0) (i := 0) (As := [.ref (ad 6 0), .int 0, .int x2]) (rest := [.int 0, .ref (ad 9 0)]) ⟨hx, hb, hml, hown, hts⟩ (kX3_toCell_0 l D ca ad A st 0 x2) (cwV 3 hts gX3_record_X3_toCell rfl rfl rfl (by decide +kernel) ⟨Nat.le_of_ble_eq_true rfl, Nat.le_of_ble_eq_true rfl⟩) hC hP hS (ow_q0_0) rfl rfl rfl hl.1 rfl (Nat.le_of_ble_eq_true rfl) dX3_record_37 ⟨Nat.zero_le _, Nat.zero_le _⟩) hS (fun H locs hP hS => ?_)
      refine og_iast (g := 9) (i := 0) (j := 0) (v := (fX3_toCell_0 st 0 x2)) hx hb hC hP hS (ow_q9_0) rfl (by unfold vp_in; decide) rfl (we_9_0 st 0 (fX3_toCell_0 st 0 x2)) dX3_record_40 (fun H locs hP hS => ?_)
      obtain ⟨st3, e3⟩ : ∃ z, z = (ow_si st 103 0 (fX3_toCell_0 st 0 x2)) := ⟨_, rfl⟩
      rw [← e3] at hP
      refine lv_aload_n hx hb dX3_record_41 rfl (lv_at hl 1 rfl) ?_
      refine og_get (C := RX3) (T := TX3) (N := 14) (g := 0) (i := 0) (v := .ref (ad 9 0)) hx hb hts li_X3_record_X3 hown hC hP (ow_q0_0) rfl rfl 9 (by decide) (hts _ lk_X3_record_3) rfl rfl dX3_record_42 ?_
      refine lv_iconst (v := 1) hx hb dX3_record_45 (by decide) ?_
      refine lv_aload_n hx hb dX3_record_46 rfl (lv_at hl 1 rfl) ?_
      refine lv_aload hx hb dX3_record_47 (lv_at hl 0 rfl) ?_
      refine lv_iconst (v := 1) hx hb dX3_record_49 (by decide) ?_
      refine lv_iload_n hx hb dX3_record_50 rfl (lv_at hl 4 rfl) ?_
      refine og_ciP (og_runV (C := RX3) (T := TX3) (N := 14) (g := 0) (i := 0) (As := [.ref (ad 6 0), .int 1, .int x3]) (rest := [.int 1, .ref (ad 9 0)]) ⟨hx, hb, hml, hown, hts⟩ (kX3_toCell_0 l D ca ad A st3 1 x3) (cwV 3 hts gX3_record_X3_toCell rfl rfl rfl (by decide +kernel) ⟨Nat.le_of_ble_eq_true rfl, Nat.le_of_ble_eq_true rfl⟩) hC hP hS (ow_q0_0) rfl rfl rfl hl.1 rfl (Nat.le_of_ble_eq_true rfl) dX3_record_51 ⟨Nat.zero_le _, Nat.zero_le _⟩) hS (fun H locs hP hS => ?_)
      refine og_iast (g := 9) (i := 0) (j := 1) (v := (fX3_toCell_0 st3 1 x3)) hx hb hC hP hS (ow_q9_0) rfl (by unfold vp_in; decide) rfl (we_9_0 st3 1 (fX3_toCell_0 st3 1 x3)) dX3_record_54 (fun H locs hP hS => ?_)
      obtain ⟨st4, e4⟩ : ∃ z, z = (ow_si st3 103 1 (fX3_toCell_0 st3 1 x3)) := ⟨_, rfl⟩
      rw [← e4] at hP
      refine lv_aload_n hx hb dX3_record_55 rfl (lv_at hl 1 rfl) ?_
      refine og_get (C := RX3) (T := TX3) (N := 14) (g := 0) (i := 0) (v := .ref (ad 9 0)) hx hb hts li_X3_record_X3 hown hC hP (ow_q0_0) rfl rfl 9 (by decide) (hts _ lk_X3_record_3) rfl rfl dX3_record_56 ?_
      refine lv_iconst (v := 2) hx hb dX3_record_59 (by decide) ?_
      refine lv_aload_n hx hb dX3_record_60 rfl (lv_at hl 1 rfl) ?_
      refine lv_aload hx hb dX3_record_61 (lv_at hl 0 rfl) ?_
      refine lv_iconst (v := 2) hx hb dX3_record_63 (by decide) ?_
      refine lv_iload hx hb dX3_record_64 (lv_at hl 5 rfl) ?_
      refine og_ciP (og_runV (C := RX3) (T := TX3) (N := 14) (g := 0) (i := 0) (As := [.ref (ad 6 0), .int 2, .int x4]) (rest := [.int 2, .ref (ad 9 0)]) ⟨hx, hb, hml, hown, hts⟩ (kX3_toCell_0 l D ca ad A st4 2 x4) (cwV 3 hts gX3_record_X3_toCell rfl rfl rfl (by decide +kernel) ⟨Nat.le_of_ble_eq_true rfl, Nat.le_of_ble_eq_true rfl⟩) hC hP hS (ow_q0_0) rfl rfl rfl hl.1 rfl (Nat.le_of_ble_eq_true rfl) dX3_record_66 ⟨Nat.zero_le _, Nat.zero_le _⟩) hS (fun H locs hP hS => ?_)
      refine og_iast (g := 9) (i := 0) (j := 2) (v := (fX3_toCell_0 st4 2 x4)) hx hb hC hP hS (ow_q9_0) rfl (by unfold vp_in; decide) rfl (we_9_0 st4 2 (fX3_toCell_0 st4 2 x4)) dX3_record_69 (fun H locs hP hS => ?_)
      obtain ⟨st5, e5⟩ : ∃ z, z = (ow_si st4 103 2 (fX3_toCell_0 st4 2 x4)) := ⟨_, rfl⟩
      rw [← e5] at hP
      refine lv_aload_n hx hb dX3_record_70 rfl (lv_at hl 1 rfl) ?_
      refine og_get (C := RX3) (T := TX3) (N := 14) (g := 0) (i := 0) (v := .ref (ad 9 0)) hx hb hts li_X3_record_X3 hown hC hP (ow_q0_0) rfl rfl 9 (by decide) (hts _ lk_X3_record_3) rfl rfl dX3_record_71 ?_
      refine lv_iconst (v := 3) hx hb dX3_record_74 (by decide) ?_
      refine lv_aload_n hx hb dX3_record_75 rfl (lv_at hl 1 rfl) ?_
      refine lv_aload hx hb dX3_record_76 (lv_at hl 0 rfl) ?_
      refine lv_iconst (v := 3) hx hb dX3_record_78 (by decide) ?_
      refine lv_iload hx hb dX3_record_79 (lv_at hl 6 rfl) ?_
      refine og_ciP (og_runV (C := RX3) (T := TX3) (N := 14) (g := 0) (i := 0) (As := [.ref (ad 6 0), .int 3, .int x5]) (rest := [.int 3, .ref (ad 9 0)]) ⟨hx, hb, hml, hown, hts⟩ (kX3_toCell_0 l D ca ad A st5 3 x5) (cwV 3 hts gX3_record_X3_toCell rfl rfl rfl (by decide +kernel) ⟨Nat.le_of_ble_eq_true rfl, Nat.le_of_ble_eq_true rfl⟩) hC hP hS (ow_q0_0) rfl rfl rfl hl.1 rfl (Nat.le_of_ble_eq_true rfl) dX3_record_81 ⟨Nat.zero_le _, Nat.zero_le _⟩) hS (fun H locs hP hS => ?_)
      refine og_iast (g := 9) (i := 0) (j := 3) (v := (fX3_toCell_0 st5 3 x5)) hx hb hC hP hS (ow_q9_0) rfl (by unfold vp_in; decide) rfl (we_9_0 st5 3 (fX3_toCell_0 st5 3 x5)) dX3_record_84 (fun H locs hP hS => ?_)
      obtain ⟨st6, e6⟩ : ∃ z, z = (ow_si st5 103 3 (fX3_toCell_0 st5 3 x5)) := ⟨_, rfl⟩
      rw [← e6] at hP
      refine lv_aload_n hx hb dX3_record_85 rfl (lv_at hl 1 rfl) ?_
      refine lv_aload hx hb dX3_record_86 (lv_at hl 0 rfl) ?_
      refine og_ciW (og_runV (C := RX3) (T := TX3) (N := 14) (g := 0) (i := 0) (As := [.ref (ad 6 0)]) (rest := []) ⟨hx, hb, hml, hown, hts⟩ (kX3_putTogether_0 l D ca ad A st6) (cwV 1 hts gX3_record_X3_putTogether rfl rfl rfl (by decide +kernel) ⟨Nat.le_of_ble_eq_true rfl, Nat.le_of_ble_eq_true rfl⟩) hC hP hS (ow_q0_0) rfl rfl rfl hl.1 rfl (Nat.le_of_ble_eq_true rfl) dX3_record_88 ⟨Nat.zero_le _, Nat.zero_le _⟩) hS (fun H locs hP hS => ?_)
      obtain ⟨st7, e7⟩ : ∃ z, z = (fX3_putTogether_0 st6).2 := ⟨_, rfl⟩
      rw [← e7] at hP
      refine lv_istore (lv' := [(7, .int ((fX3_putTogether_0 st6).1)), (6, .ref (ad 6 0)), (0, .ref (ad 0 0)), (1, .int x1), (2, .int x2), (3, .int x3), (4, .int x4), (5, .int x5)]) hx hb dX3_record_91 hl (by decide) rfl (fun ls hl => ?_)
      refine lv_iload hx hb dX3_record_93 (lv_at hl 0 rfl) ?_
      refine lv_iconst (v := 1) hx hb dX3_record_95 (by decide) ?_
      refine lv_icmp_eq (tgt := 102) hx hb dX3_record_96 (by decide) (fun c_8 => ?_) (fun c_8 => ?_)
      · refine lv_iconst (v := 0) hx hb dX3_record_102 (by decide) ?_
        refine lv_istore (lv' := [(8, .int 0), (7, .int ((fX3_putTogether_0 st6).1)), (6, .ref (ad 6 0)), (0, .ref (ad 0 0)), (1, .int x1), (2, .int x2), (3, .int x3), (4, .int x4), (5, .int x5)]) hx hb dX3_record_103 hl (by decide) rfl (fun ls hl => ?_)
        refine lv_iload hx hb dX3_record_105 (lv_at hl 0 rfl) ?_
        refine lv_aload hx hb dX3_record_107 (lv_at hl 2 rfl) ?_
        refine og_getN (C := RX2) (T := TX2) (N := 5) (g := 6) (i := 0) (v := .int 3) hx hb hts li_X3_record_X2 hown hC hP (ow_q6_0) rfl rfl 1 (by decide) ln_X3_record_4 rfl rfl dX3_record_109 ?_
        refine lv_icmp_ge (tgt := 142) hx hb dX3_record_112 (by decide) (fun c => absurd c (by decide)) (fun _ => ?_)
        refine lv_aload hx hb dX3_record_115 (lv_at hl 2 rfl) ?_
        refine og_getN (C := RX2) (T := TX2) (N := 5) (g := 6) (i := 0) (v := .ref (ad 7 0)) hx hb hts li_X3_record_X2 hown hC hP (ow_q6_0) rfl rfl 3 (by decide) ln_X3_record_5 rfl rfl dX3_record_117 ?_
        refine lv_iload hx hb dX3_record_120 (lv_at hl 0 rfl) ?_
        refine og_aaldI (g := 7) (i := 0) (v := ad 8 0) hx hb hC hP ow_q7_0 rfl (by unfold vp_in; decide) rfl dX3_record_122 ?_
        refine lv_aload hx hb dX3_record_123 (lv_at hl 2 rfl) ?_
        refine og_getN (C := RX2) (T := TX2) (N := 5) (g := 6) (i := 0) (v := .int (st7.1 4 0)) hx hb hts li_X3_record_X2 hown hC hP (ow_q6_0) rfl rfl 4 (by decide) ln_X3_record_0 rfl rfl dX3_record_125 ?_
        refine lv_aload_n hx hb dX3_record_128 rfl (lv_at hl 3 rfl) ?_
        refine og_get (C := RX3) (T := TX3) (N := 14) (g := 0) (i := 0) (v := .ref (ad 9 0)) hx hb hts li_X3_record_X3 hown hC hP (ow_q0_0) rfl rfl 9 (by decide) (hts _ lk_X3_record_3) rfl rfl dX3_record_129 ?_
        refine lv_iload hx hb dX3_record_132 (lv_at hl 0 rfl) ?_
        refine og_iald (g := 9) (i := 0) (j := 0) (v := (st7.1 103 0)) hx hb hC hP (ow_q9_0) rfl (by unfold vp_in; decide) rfl rfl dX3_record_134 ?_
        refine og_iast (g := 8) (i := 0) (j := ((st7.1 4 0).toNatClampNeg)) (v := (st7.1 103 0)) hx hb hC hP hS (ow_q8_0) rfl (by have h9 := sz_in hz0 c_2; subst e7; subst e6; subst e5; subst e4; subst e3; simp (disch := decide) only [ow_si_ne, pu_fr_0]; exact h9) rfl (we_8 st7 0 ((st7.1 4 0).toNatClampNeg) (st7.1 103 0)) dX3_record_135 (fun H locs hP hS => ?_)
        obtain ⟨st9, e9⟩ : ∃ z, z = (ow_si st7 102 ((st7.1 4 0).toNatClampNeg) (st7.1 103 0)) := ⟨_, rfl⟩
        rw [← e9] at hP
        refine lv_iinc (v := 1) (lv' := [(8, .int 1), (7, .int ((fX3_putTogether_0 st6).1)), (6, .ref (ad 6 0)), (0, .ref (ad 0 0)), (1, .int x1), (2, .int x2), (3, .int x3), (4, .int x4), (5, .int x5)]) hx hb dX3_record_136 hl (k := 0) rfl (by decide) (by decide) rfl (fun ls hl => ?_)
        refine lv_goto (tgt := 105) hx hb dX3_record_139 (by decide) ?_
        refine lv_iload hx hb dX3_record_105 (lv_at hl 0 rfl) ?_
        refine lv_aload hx hb dX3_record_107 (lv_at hl 2 rfl) ?_
        refine og_getN (C := RX2) (T := TX2) (N := 5) (g := 6) (i := 0) (v := .int 3) hx hb hts li_X3_record_X2 hown hC hP (ow_q6_0) rfl rfl 1 (by decide) ln_X3_record_4 rfl rfl dX3_record_109 ?_
        refine lv_icmp_ge (tgt := 142) hx hb dX3_record_112 (by decide) (fun c => absurd c (by decide)) (fun _ => ?_)
        refine lv_aload hx hb dX3_record_115 (lv_at hl 2 rfl) ?_
        refine og_getN (C := RX2) (T := TX2) (N := 5) (g := 6) (i := 0) (v := .ref (ad 7 0)) hx hb hts li_X3_record_X2 hown hC hP (ow_q6_0) rfl rfl 3 (by decide) ln_X3_record_5 rfl rfl dX3_record_117 ?_
        refine lv_iload hx hb dX3_record_120 (lv_at hl 0 rfl) ?_
        refine og_aaldI (g := 7) (i := 0) (v := ad 8 1) hx hb hC hP ow_q7_0 rfl (by unfold vp_in; decide) rfl dX3_record_122 ?_
        refine lv_aload hx hb dX3_record_123 (lv_at hl 2 rfl) ?_
        refine og_getN (C := RX2) (T := TX2) (N := 5) (g := 6) (i := 0) (v := .int (st9.1 4 0)) hx hb hts li_X3_record_X2 hown hC hP (ow_q6_0) rfl rfl 4 (by decide) ln_X3_record_0 rfl rfl dX3_record_125 ?_
        refine lv_aload_n hx hb dX3_record_128 rfl (lv_at hl 3 rfl) ?_
        refine og_get (C := RX3) (T := TX3) (N := 14) (g := 0) (i := 0) (v := .ref (ad 9 0)) hx hb hts li_X3_record_X3 hown hC hP (ow_q0_0) rfl rfl 9 (by decide) (hts _ lk_X3_record_3) rfl rfl dX3_record_129 ?_
        refine lv_iload hx hb dX3_record_132 (lv_at hl 0 rfl) ?_
        refine og_iald (g := 9) (i := 0) (j := 1) (v := (st9.1 103 1)) hx hb hC hP (ow_q9_0) rfl (by unfold vp_in; decide) rfl rfl dX3_record_134 ?_
        refine og_iast (g := 8) (i := 1) (j := ((st9.1 4 0).toNatClampNeg)) (v := (st9.1 103 1)) hx hb hC hP hS (ow_q8_1) rfl (by have h9 := sz_in hz0 c_2; subst e9; subst e7; subst e6; subst e5; subst e4; subst e3; simp (disch := decide) only [ow_si_ne, pu_fr_0]; exact h9) rfl (we_8 st9 1 ((st9.1 4 0).toNatClampNeg) (st9.1 103 1)) dX3_record_135 (fun H locs hP hS => ?_)
        obtain ⟨st10, e10⟩ : ∃ z, z = (ow_si st9 106 ((st9.1 4 0).toNatClampNeg) (st9.1 103 1)) := ⟨_, rfl⟩
        rw [← e10] at hP
        refine lv_iinc (v := 2) (lv' := [(8, .int 2), (7, .int ((fX3_putTogether_0 st6).1)), (6, .ref (ad 6 0)), (0, .ref (ad 0 0)), (1, .int x1), (2, .int x2), (3, .int x3), (4, .int x4), (5, .int x5)]) hx hb dX3_record_136 hl (k := 0) rfl (by decide) (by decide) rfl (fun ls hl => ?_)
        refine lv_goto (tgt := 105) hx hb dX3_record_139 (by decide) ?_
        refine lv_iload hx hb dX3_record_105 (lv_at hl 0 rfl) ?_
        refine lv_aload hx hb dX3_record_107 (lv_at hl 2 rfl) ?_
        refine og_getN (C := RX2) (T := TX2) (N := 5) (g := 6) (i := 0) (v := .int 3) hx hb hts li_X3_record_X2 hown hC hP (ow_q6_0) rfl rfl 1 (by decide) ln_X3_record_4 rfl rfl dX3_record_109 ?_
        refine lv_icmp_ge (tgt := 142) hx hb dX3_record_112 (by decide) (fun c => absurd c (by decide)) (fun _ => ?_)
        refine lv_aload hx hb dX3_record_115 (lv_at hl 2 rfl) ?_
        refine og_getN (C := RX2) (T := TX2) (N := 5) (g := 6) (i := 0) (v := .ref (ad 7 0)) hx hb hts li_X3_record_X2 hown hC hP (ow_q6_0) rfl rfl 3 (by decide) ln_X3_record_5 rfl rfl dX3_record_117 ?_
        refine lv_iload hx hb dX3_record_120 (lv_at hl 0 rfl) ?_
        refine og_aaldI (g := 7) (i := 0) (v := ad 8 2) hx hb hC hP ow_q7_0 rfl (by unfold vp_in; decide) rfl dX3_record_122 ?_
        refine lv_aload hx hb dX3_record_123 (lv_at hl 2 rfl) ?_
        refine og_getN (C := RX2) (T := TX2) (N := 5) (g := 6) (i := 0) (v := .int (st10.1 4 0)) hx hb hts li_X3_record_X2 hown hC hP (ow_q6_0) rfl rfl 4 (by decide) ln_X3_record_0 rfl rfl dX3_record_125 ?_
        refine lv_aload_n hx hb dX3_record_128 rfl (lv_at hl 3 rfl) ?_
        refine og_get (C := RX3) (T := TX3) (N := 14) (g := 0) (i := 0) (v := .ref (ad 9 0)) hx hb hts li_X3_record_X3 hown hC hP (ow_q0_0) rfl rfl 9 (by decide) (hts _ lk_X3_record_3) rfl rfl dX3_record_129 ?_
        refine lv_iload hx hb dX3_record_132 (lv_at hl 0 rfl) ?_
        refine og_iald (g := 9) (i := 0) (j := 2) (v := (st10.1 103 2)) hx hb hC hP (ow_q9_0) rfl (by unfold vp_in; decide) rfl rfl dX3_record_134 ?_
        refine og_iast (g := 8) (i := 2) (j := ((st10.1 4 0).toNatClampNeg)) (v := (st10.1 103 2)) hx hb hC hP hS (ow_q8_2) rfl (by have h9 := sz_in hz0 c_2; subst e10; subst e9; subst e7; subst e6; subst e5; subst e4; subst e3; simp (disch := decide) only [ow_si_ne, pu_fr_0]; exact h9) rfl (we_8 st10 2 ((st10.1 4 0).toNatClampNeg) (st10.1 103 2)) dX3_record_135 (fun H locs hP hS => ?_)
        obtain ⟨st11, e11⟩ : ∃ z, z = (ow_si st10 110 ((st10.1 4 0).toNatClampNeg) (st10.1 103 2)) := ⟨_, rfl⟩
        rw [← e11] at hP
        refine lv_iinc (v := 3) (lv' := [(8, .int 3), (7, .int ((fX3_putTogether_0 st6).1)), (6, .ref (ad 6 0)), (0, .ref (ad 0 0)), (1, .int x1), (2, .int x2), (3, .int x3), (4, .int x4), (5, .int x5)]) hx hb dX3_record_136 hl (k := 0) rfl (by decide) (by decide) rfl (fun ls hl => ?_)
        refine lv_goto (tgt := 105) hx hb dX3_record_139 (by decide) ?_
        refine lv_iload hx hb dX3_record_105 (lv_at hl 0 rfl) ?_
        refine lv_aload hx hb dX3_record_107 (lv_at hl 2 rfl) ?_
        refine og_getN (C := RX2) (T := TX2) (N := 5) (g := 6) (i := 0) (v := .int 3) hx hb hts li_X3_record_X2 hown hC hP (ow_q6_0) rfl rfl 1 (by decide) ln_X3_record_4 rfl rfl dX3_record_109 ?_
        refine lv_icmp_ge (tgt := 142) hx hb dX3_record_112 (by decide) (fun _ => ?_) (fun c => absurd (by decide) c)
        refine lv_aload hx hb dX3_record_142 (lv_at hl 2 rfl) ?_
        refine lv_dup hx hb dX3_record_144 rfl ?_
        refine og_getN (C := RX2) (T := TX2) (N := 5) (g := 6) (i := 0) (v := .int (st11.1 4 0)) hx hb hts li_X3_record_X2 hown hC hP (ow_q6_0) rfl rfl 4 (by decide) ln_X3_record_0 rfl rfl dX3_record_145 ?_
        refine lv_iconst (v := 1) hx hb dX3_record_148 (by decide) ?_
        refine lv_iadd hx hb dX3_record_149 ?_
        refine og_putN (C := RX2) (T := TX2) (N := 5) (g := 6) (i := 0) (v := .int ((st11.1 4 0) + 1)) (ty := .int) hx hb hts li_X3_record_X2 tyX2 tyX2_ok nmX2 hown hC hP hS (ow_q6_0) rfl rfl 4 (by decide) ln_X3_record_0 rfl rfl (by decide +kernel) rfl rfl (Nat.le_of_ble_eq_true rfl) (we_6 st11 0 ((st11.1 4 0) + 1)) dX3_record_150 (fun H locs hP hS => ?_)
        obtain ⟨st12, e12⟩ : ∃ z, z = (ow_si st11 4 0 ((st11.1 4 0) + 1)) := ⟨_, rfl⟩
        rw [← e12] at hP
        refine lv_aload hx hb dX3_record_153 (lv_at hl 2 rfl) ?_
        refine og_getN (C := RX2) (T := TX2) (N := 5) (g := 6) (i := 0) (v := .int (st12.1 4 0)) hx hb hts li_X3_record_X2 hown hC hP (ow_q6_0) rfl rfl 4 (by decide) ln_X3_record_0 rfl rfl dX3_record_155 ?_
        refine lv_iconst (v := 1) hx hb dX3_record_158 (by decide) ?_
        refine lv_isub hx hb dX3_record_159 ?_
        exact W.iret (v := ((st12.1 4 0) - 1)) hx hb hr (fun t ht hW => ⟨⟨((st12.1 4 0) - 1), st12, rfl, (by subst e12; subst e11; subst e10; subst e9; subst e7; subst e6; subst e5; subst e4; subst e3; simp only [fX3_record, if_pos c_1, if_pos c_2, if_pos c_8]), ow_Bi ht hP⟩, hS.F ht⟩) hS.2.2 dX3_record_160
      · refine lv_iload hx hb dX3_record_99 (lv_at hl 0 rfl) ?_
        exact W.iret (v := (fX3_putTogether_0 st6).1) hx hb hr (fun t ht hW => ⟨⟨(fX3_putTogether_0 st6).1, st7, rfl, (by subst e7; subst e6; subst e5; subst e4; subst e3; simp only [fX3_record, if_pos c_1, if_pos c_2, if_neg c_8]), ow_Bi ht hP⟩, hS.F ht⟩) hS.2.2 dX3_record_101
    · refine lv_bipush (v := (-2)) hx hb dX3_record_24 (by decide) ?_
      exact W.iret (v := (-2)) hx hb hr (fun t ht hW => ⟨⟨(-2), st, rfl, (by simp only [fX3_record, if_pos c_1, if_neg c_2]), ow_Bi ht hP⟩, hS.F ht⟩) hS.2.2 dX3_record_26
  · by_cases c_13 : x1 = 1
    · refine og_cqS (q := ad 6 1) (og_runV (C := RX3) (T := TX3) (N := 14) (g := 0) (i := 0) (As := [.int x1]) (rest := []) ⟨hx, hb, hml, hown, hts⟩ (kX3_tableNumbered l D ca ad A st x1) (cwV 1 hts gX3_record_X3_tableNumbered rfl rfl rfl (by decide +kernel) ⟨Nat.le_of_ble_eq_true rfl, Nat.le_of_ble_eq_true rfl⟩) hC hP hS (ow_q0_0) rfl rfl rfl hl.1 rfl (Nat.le_of_ble_eq_true rfl) dX3_record_2 ⟨Nat.zero_le _, Nat.zero_le _⟩) hS (by simp only [fX3_tableNumbered, if_neg c_1, if_pos c_13]) (fun H locs hP hS => ?_)
      refine lv_astore (lv' := [(6, .ref (ad 6 1)), (0, .ref (ad 0 0)), (1, .int x1), (2, .int x2), (3, .int x3), (4, .int x4), (5, .int x5)]) hx hb dX3_record_5 hl (by decide) rfl (fun ls hl => ?_)
      refine lv_aload hx hb dX3_record_7 (lv_at hl 0 rfl) ?_
      refine lv_ifnonnull (tgt := 14) hx hb dX3_record_9 (by decide) ?_
      refine lv_aload hx hb dX3_record_14 (lv_at hl 0 rfl) ?_
      refine og_getN (C := RX2) (T := TX2) (N := 5) (g := 6) (i := 1) (v := .int (st.1 4 1)) hx hb hts li_X3_record_X2 hown hC hP (ow_q6_1) rfl rfl 4 (by decide) ln_X3_record_0 rfl rfl dX3_record_16 ?_
      refine lv_bipush (v := 30) hx hb dX3_record_19 (by decide) ?_
      refine lv_icmp_lt (tgt := 27) hx hb dX3_record_21 (by decide) (fun c_14 => ?_) (fun c_14 => ?_)
      · refine lv_aload_n hx hb dX3_record_27 rfl (lv_at hl 1 rfl) ?_
        refine og_get (C := RX3) (T := TX3) (N := 14) (g := 0) (i := 0) (v := .ref (ad 9 0)) hx hb hts li_X3_record_X3 hown hC hP (ow_q0_0) rfl rfl 9 (by decide) (hts _ lk_X3_record_3) rfl rfl dX3_record_28 ?_
        refine lv_iconst (v := 0) hx hb dX3_record_31 (by decide) ?_
        refine lv_aload_n hx hb dX3_record_32 rfl (lv_at hl 1 rfl) ?_
        refine lv_aload hx hb dX3_record_33 (lv_at hl 0 rfl) ?_
        refine lv_iconst (v := 0) hx hb dX3_record_35 (by decide) ?_
        refine lv_iload_n hx hb dX3_record_36 rfl (lv_at hl 3 rfl) ?_
        refine og_ciP (og_runV (C := RX3) (T := TX3) (N := 14) (g := 0) (i := 0) (As := [.ref (ad 6 1), .int 0, .int x2]) (rest := [.int 0, .ref (ad 9 0)]) ⟨hx, hb, hml, hown, hts⟩ (kX3_toCell_1 l D ca ad A st 0 x2) (cwV 3 hts gX3_record_X3_toCell rfl rfl rfl (by decide +kernel) ⟨Nat.le_of_ble_eq_true rfl, Nat.le_of_ble_eq_true rfl⟩) hC hP hS (ow_q0_0) rfl rfl rfl hl.1 rfl (Nat.le_of_ble_eq_true rfl) dX3_record_37 ⟨Nat.zero_le _, Nat.zero_le _⟩) hS (fun H locs hP hS => ?_)
        refine og_iast (g := 9) (i := 0) (j := 0) (v := (fX3_toCell_1 st 0 x2)) hx hb hC hP hS (ow_q9_0) rfl (by unfold vp_in; decide) rfl (we_9_0 st 0 (fX3_toCell_1 st 0 x2)) dX3_record_40 (fun H locs hP hS => ?_)
        obtain ⟨st15, e15⟩ : ∃ z, z = (ow_si st 103 0 (fX3_toCell_1 st 0 x2)) := ⟨_, rfl⟩
        rw [← e15] at hP
        refine lv_aload_n hx hb dX3_record_41 rfl (lv_at hl 1 rfl) ?_
        refine og_get (C := RX3) (T := TX3) (N := 14) (g := 0) (i := 0) (v := .ref (ad 9 0)) hx hb hts li_X3_record_X3 hown hC hP (ow_q0_0) rfl rfl 9 (by decide) (hts _ lk_X3_record_3) rfl rfl dX3_record_42 ?_
        refine lv_iconst (v := 1) hx hb dX3_record_45 (by decide) ?_
        refine lv_aload_n hx hb dX3_record_46 rfl (lv_at hl 1 rfl) ?_
        refine lv_aload hx hb dX3_record_47 (lv_at hl 0 rfl) ?_
        refine lv_iconst (v := 1) hx hb dX3_record_49 (by decide) ?_
        refine lv_iload_n hx hb dX3_record_50 rfl (lv_at hl 4 rfl) ?_
        refine og_ciP (og_runV (C := RX3) (T := TX3) (N := 14) (g := 0) (i := 0) (As := [.ref (ad 6 1), .int 1, .int x3]) (rest := [.int 1, .ref (ad 9 0)]) ⟨hx, hb, hml, hown, hts⟩ (kX3_toCell_1 l D ca ad A st15 1 x3) (cwV 3 hts gX3_record_X3_toCell rfl rfl rfl (by decide +kernel) ⟨Nat.le_of_ble_eq_true rfl, Nat.le_of_ble_eq_true rfl⟩) hC hP hS (ow_q0_0) rfl rfl rfl hl.1 rfl (Nat.le_of_ble_eq_true rfl) dX3_record_51 ⟨Nat.zero_le _, Nat.zero_le _⟩) hS (fun H locs hP hS => ?_)
        refine og_iast (g := 9) (i := 0) (j := 1) (v := (fX3_toCell_1 st15 1 x3)) hx hb hC hP hS (ow_q9_0) rfl (by unfold vp_in; decide) rfl (we_9_0 st15 1 (fX3_toCell_1 st15 1 x3)) dX3_record_54 (fun H locs hP hS => ?_)
        obtain ⟨st16, e16⟩ : ∃ z, z = (ow_si st15 103 1 (fX3_toCell_1 st15 1 x3)) := ⟨_, rfl⟩
        rw [← e16] at hP
        refine lv_aload_n hx hb dX3_record_55 rfl (lv_at hl 1 rfl) ?_
        refine og_get (C := RX3) (T := TX3) (N := 14) (g := 0) (i := 0) (v := .ref (ad 9 0)) hx hb hts li_X3_record_X3 hown hC hP (ow_q0_0) rfl rfl 9 (by decide) (hts _ lk_X3_record_3) rfl rfl dX3_record_56 ?_
        refine lv_iconst (v := 2) hx hb dX3_record_59 (by decide) ?_
        refine lv_aload_n hx hb dX3_record_60 rfl (lv_at hl 1 rfl) ?_
        refine lv_aload hx hb dX3_record_61 (lv_at hl 0 rfl) ?_
        refine lv_iconst (v := 2) hx hb dX3_record_63 (by decide) ?_
        refine lv_iload hx hb dX3_record_64 (lv_at hl 5 rfl) ?_
        refine og_ciP (og_runV (C := RX3) (T := TX3) (N := 14) (g := 0) (i := 0) (As := [.ref (ad 6 1), .int 2, .int x4]) (rest := [.int 2, .ref (ad 9 0)]) ⟨hx, hb, hml, hown, hts⟩ (kX3_toCell_1 l D ca ad A st16 2 x4) (cwV 3 hts gX3_record_X3_toCell rfl rfl rfl (by decide +kernel) ⟨Nat.le_of_ble_eq_true rfl, Nat.le_of_ble_eq_true rfl⟩) hC hP hS (ow_q0_0) rfl rfl rfl hl.1 rfl (Nat.le_of_ble_eq_true rfl) dX3_record_66 ⟨Nat.zero_le _, Nat.zero_le _⟩) hS (fun H locs hP hS => ?_)
        refine og_iast (g := 9) (i := 0) (j := 2) (v := (fX3_toCell_1 st16 2 x4)) hx hb hC hP hS (ow_q9_0) rfl (by unfold vp_in; decide) rfl (we_9_0 st16 2 (fX3_toCell_1 st16 2 x4)) dX3_record_69 (fun H locs hP hS => ?_)
        obtain ⟨st17, e17⟩ : ∃ z, z = (ow_si st16 103 2 (fX3_toCell_1 st16 2 x4)) := ⟨_, rfl⟩
        rw [← e17] at hP
        refine lv_aload_n hx hb dX3_record_70 rfl (lv_at hl 1 rfl) ?_
        refine og_get (C := RX3) (T := TX3) (N := 14) (g := 0) (i := 0) (v := .ref (ad 9 0)) hx hb hts li_X3_record_X3 hown hC hP (ow_q0_0) rfl rfl 9 (by decide) (hts _ lk_X3_record_3) rfl rfl dX3_record_71 ?_
        refine lv_iconst (v := 3) hx hb dX3_record_74 (by decide) ?_
        refine lv_aload_n hx hb dX3_record_75 rfl (lv_at hl 1 rfl) ?_
        refine lv_aload hx hb dX3_record_76 (lv_at hl 0 rfl) ?_
        refine lv_iconst (v := 3) hx hb dX3_record_78 (by decide) ?_
        refine lv_iload hx hb dX3_record_79 (lv_at hl 6 rfl) ?_
        refine og_ciP (og_runV (C := RX3) (T := TX3) (N := 14) (g := 0) (i := 0) (As := [.ref (ad 6 1), .int 3, .int x5]) (rest := [.int 3, .ref (ad 9 0)]) ⟨hx, hb, hml, hown, hts⟩ (kX3_toCell_1 l D ca ad A st17 3 x5) (cwV 3 hts gX3_record_X3_toCell rfl rfl rfl (by decide +kernel) ⟨Nat.le_of_ble_eq_true rfl, Nat.le_of_ble_eq_true rfl⟩) hC hP hS (ow_q0_0) rfl rfl rfl hl.1 rfl (Nat.le_of_ble_eq_true rfl) dX3_record_81 ⟨Nat.zero_le _, Nat.zero_le _⟩) hS (fun H locs hP hS => ?_)
        refine og_iast (g := 9) (i := 0) (j := 3) (v := (fX3_toCell_1 st17 3 x5)) hx hb hC hP hS (ow_q9_0) rfl (by unfold vp_in; decide) rfl (we_9_0 st17 3 (fX3_toCell_1 st17 3 x5)) dX3_record_84 (fun H locs hP hS => ?_)
        obtain ⟨st18, e18⟩ : ∃ z, z = (ow_si st17 103 3 (fX3_toCell_1 st17 3 x5)) := ⟨_, rfl⟩
        rw [← e18] at hP
        refine lv_aload_n hx hb dX3_record_85 rfl (lv_at hl 1 rfl) ?_
        refine lv_aload hx hb dX3_record_86 (lv_at hl 0 rfl) ?_
        refine og_ciW (og_runV (C := RX3) (T := TX3) (N := 14) (g := 0) (i := 0) (As := [.ref (ad 6 1)]) (rest := []) ⟨hx, hb, hml, hown, hts⟩ (kX3_putTogether_1 l D ca ad A st18) (cwV 1 hts gX3_record_X3_putTogether rfl rfl rfl (by decide +kernel) ⟨Nat.le_of_ble_eq_true rfl, Nat.le_of_ble_eq_true rfl⟩) hC hP hS (ow_q0_0) rfl rfl rfl hl.1 rfl (Nat.le_of_ble_eq_true rfl) dX3_record_88 ⟨Nat.zero_le _, Nat.zero_le _⟩) hS (fun H locs hP hS => ?_)
        obtain ⟨st19, e19⟩ : ∃ z, z = (fX3_putTogether_1 st18).2 := ⟨_, rfl⟩
        rw [← e19] at hP
        refine lv_istore (lv' := [(7, .int ((fX3_putTogether_1 st18).1)), (6, .ref (ad 6 1)), (0, .ref (ad 0 0)), (1, .int x1), (2, .int x2), (3, .int x3), (4, .int x4), (5, .int x5)]) hx hb dX3_record_91 hl (by decide) rfl (fun ls hl => ?_)
        refine lv_iload hx hb dX3_record_93 (lv_at hl 0 rfl) ?_
        refine lv_iconst (v := 1) hx hb dX3_record_95 (by decide) ?_
        refine lv_icmp_eq (tgt := 102) hx hb dX3_record_96 (by decide) (fun c_20 => ?_) (fun c_20 => ?_)
        · refine lv_iconst (v := 0) hx hb dX3_record_102 (by decide) ?_
          refine lv_istore (lv' := [(8, .int 0), (7, .int ((fX3_putTogether_1 st18).1)), (6, .ref (ad 6 1)), (0, .ref (ad 0 0)), (1, .int x1), (2, .int x2), (3, .int x3), (4, .int x4), (5, .int x5)]) hx hb dX3_record_103 hl (by decide) rfl (fun ls hl => ?_)
          refine lv_iload hx hb dX3_record_105 (lv_at hl 0 rfl) ?_
          refine lv_aload hx hb dX3_record_107 (lv_at hl 2 rfl) ?_
          refine og_getN (C := RX2) (T := TX2) (N := 5) (g := 6) (i := 1) (v := .int 4) hx hb hts li_X3_record_X2 hown hC hP (ow_q6_1) rfl rfl 1 (by decide) ln_X3_record_4 rfl rfl dX3_record_109 ?_
          refine lv_icmp_ge (tgt := 142) hx hb dX3_record_112 (by decide) (fun c => absurd c (by decide)) (fun _ => ?_)
          refine lv_aload hx hb dX3_record_115 (lv_at hl 2 rfl) ?_
          refine og_getN (C := RX2) (T := TX2) (N := 5) (g := 6) (i := 1) (v := .ref (ad 7 1)) hx hb hts li_X3_record_X2 hown hC hP (ow_q6_1) rfl rfl 3 (by decide) ln_X3_record_5 rfl rfl dX3_record_117 ?_
          refine lv_iload hx hb dX3_record_120 (lv_at hl 0 rfl) ?_
          refine og_aaldI (g := 7) (i := 1) (v := ad 8 4) hx hb hC hP ow_q7_1 rfl (by unfold vp_in; decide) rfl dX3_record_122 ?_
          refine lv_aload hx hb dX3_record_123 (lv_at hl 2 rfl) ?_
          refine og_getN (C := RX2) (T := TX2) (N := 5) (g := 6) (i := 1) (v := .int (st19.1 4 1)) hx hb hts li_X3_record_X2 hown hC hP (ow_q6_1) rfl rfl 4 (by decide) ln_X3_record_0 rfl rfl dX3_record_125 ?_
          refine lv_aload_n hx hb dX3_record_128 rfl (lv_at hl 3 rfl) ?_
          refine og_get (C := RX3) (T := TX3) (N := 14) (g := 0) (i := 0) (v := .ref (ad 9 0)) hx hb hts li_X3_record_X3 hown hC hP (ow_q0_0) rfl rfl 9 (by decide) (hts _ lk_X3_record_3) rfl rfl dX3_record_129 ?_
          refine lv_iload hx hb dX3_record_132 (lv_at hl 0 rfl) ?_
          refine og_iald (g := 9) (i := 0) (j := 0) (v := (st19.1 103 0)) hx hb hC hP (ow_q9_0) rfl (by unfold vp_in; decide) rfl rfl dX3_record_134 ?_
          refine og_iast (g := 8) (i := 4) (j := ((st19.1 4 1).toNatClampNeg)) (v := (st19.1 103 0)) hx hb hC hP hS (ow_q8_4) rfl (by have h9 := sz_in hz1 c_14; subst e19; subst e18; subst e17; subst e16; subst e15; simp (disch := decide) only [ow_si_ne, pu_fr_1]; exact h9) rfl (we_8 st19 4 ((st19.1 4 1).toNatClampNeg) (st19.1 103 0)) dX3_record_135 (fun H locs hP hS => ?_)
          obtain ⟨st21, e21⟩ : ∃ z, z = (ow_si st19 118 ((st19.1 4 1).toNatClampNeg) (st19.1 103 0)) := ⟨_, rfl⟩
          rw [← e21] at hP
          refine lv_iinc (v := 1) (lv' := [(8, .int 1), (7, .int ((fX3_putTogether_1 st18).1)), (6, .ref (ad 6 1)), (0, .ref (ad 0 0)), (1, .int x1), (2, .int x2), (3, .int x3), (4, .int x4), (5, .int x5)]) hx hb dX3_record_136 hl (k := 0) rfl (by decide) (by decide) rfl (fun ls hl => ?_)
          refine lv_goto (tgt := 105) hx hb dX3_record_139 (by decide) ?_
          refine lv_iload hx hb dX3_record_105 (lv_at hl 0 rfl) ?_
          refine lv_aload hx hb dX3_record_107 (lv_at hl 2 rfl) ?_
          refine og_getN (C := RX2) (T := TX2) (N := 5) (g := 6) (i := 1) (v := .int 4) hx hb hts li_X3_record_X2 hown hC hP (ow_q6_1) rfl rfl 1 (by decide) ln_X3_record_4 rfl rfl dX3_record_109 ?_
          refine lv_icmp_ge (tgt := 142) hx hb dX3_record_112 (by decide) (fun c => absurd c (by decide)) (fun _ => ?_)
          refine lv_aload hx hb dX3_record_115 (lv_at hl 2 rfl) ?_
          refine og_getN (C := RX2) (T := TX2) (N := 5) (g := 6) (i := 1) (v := .ref (ad 7 1)) hx hb hts li_X3_record_X2 hown hC hP (ow_q6_1) rfl rfl 3 (by decide) ln_X3_record_5 rfl rfl dX3_record_117 ?_
          refine lv_iload hx hb dX3_record_120 (lv_at hl 0 rfl) ?_
          refine og_aaldI (g := 7) (i := 1) (v := ad 8 5) hx hb hC hP ow_q7_1 rfl (by unfold vp_in; decide) rfl dX3_record_122 ?_
          refine lv_aload hx hb dX3_record_123 (lv_at hl 2 rfl) ?_
          refine og_getN (C := RX2) (T := TX2) (N := 5) (g := 6) (i := 1) (v := .int (st21.1 4 1)) hx hb hts li_X3_record_X2 hown hC hP (ow_q6_1) rfl rfl 4 (by decide) ln_X3_record_0 rfl rfl dX3_record_125 ?_
          refine lv_aload_n hx hb dX3_record_128 rfl (lv_at hl 3 rfl) ?_
          refine og_get (C := RX3) (T := TX3) (N := 14) (g := 0) (i := 0) (v := .ref (ad 9 0)) hx hb hts li_X3_record_X3 hown hC hP (ow_q0_0) rfl rfl 9 (by decide) (hts _ lk_X3_record_3) rfl rfl dX3_record_129 ?_
          refine lv_iload hx hb dX3_record_132 (lv_at hl 0 rfl) ?_
          refine og_iald (g := 9) (i := 0) (j := 1) (v := (st21.1 103 1)) hx hb hC hP (ow_q9_0) rfl (by unfold vp_in; decide) rfl rfl dX3_record_134 ?_
          refine og_iast (g := 8) (i := 5) (j := ((st21.1 4 1).toNatClampNeg)) (v := (st21.1 103 1)) hx hb hC hP hS (ow_q8_5) rfl (by have h9 := sz_in hz1 c_14; subst e21; subst e19; subst e18; subst e17; subst e16; subst e15; simp (disch := decide) only [ow_si_ne, pu_fr_1]; exact h9) rfl (we_8 st21 5 ((st21.1 4 1).toNatClampNeg) (st21.1 103 1)) dX3_record_135 (fun H locs hP hS => ?_)
          obtain ⟨st22, e22⟩ : ∃ z, z = (ow_si st21 122 ((st21.1 4 1).toNatClampNeg) (st21.1 103 1)) := ⟨_, rfl⟩
          rw [← e22] at hP
          refine lv_iinc (v := 2) (lv' := [(8, .int 2), (7, .int ((fX3_putTogether_1 st18).1)), (6, .ref (ad 6 1)), (0, .ref (ad 0 0)), (1, .int x1), (2, .int x2), (3, .int x3), (4, .int x4), (5, .int x5)]) hx hb dX3_record_136 hl (k := 0) rfl (by decide) (by decide) rfl (fun ls hl => ?_)
          refine lv_goto (tgt := 105) hx hb dX3_record_139 (by decide) ?_
          refine lv_iload hx hb dX3_record_105 (lv_at hl 0 rfl) ?_
          refine lv_aload hx hb dX3_record_107 (lv_at hl 2 rfl) ?_
          refine og_getN (C := RX2) (T := TX2) (N := 5) (g := 6) (i := 1) (v := .int 4) hx hb hts li_X3_record_X2 hown hC hP (ow_q6_1) rfl rfl 1 (by decide) ln_X3_record_4 rfl rfl dX3_record_109 ?_
          refine lv_icmp_ge (tgt := 142) hx hb dX3_record_112 (by decide) (fun c => absurd c (by decide)) (fun _ => ?_)
          refine lv_aload hx hb dX3_record_115 (lv_at hl 2 rfl) ?_
          refine og_getN (C := RX2) (T := TX2) (N := 5) (g := 6) (i := 1) (v := .ref (ad 7 1)) hx hb hts li_X3_record_X2 hown hC hP (ow_q6_1) rfl rfl 3 (by decide) ln_X3_record_5 rfl rfl dX3_record_117 ?_
          refine lv_iload hx hb dX3_record_120 (lv_at hl 0 rfl) ?_
          refine og_aaldI (g := 7) (i := 1) (v := ad 8 6) hx hb hC hP ow_q7_1 rfl (by unfold vp_in; decide) rfl dX3_record_122 ?_
          refine lv_aload hx hb dX3_record_123 (lv_at hl 2 rfl) ?_
          refine og_getN (C := RX2) (T := TX2) (N := 5) (g := 6) (i := 1) (v := .int (st22.1 4 1)) hx hb hts li_X3_record_X2 hown hC hP (ow_q6_1) rfl rfl 4 (by decide) ln_X3_record_0 rfl rfl dX3_record_125 ?_
          refine lv_aload_n hx hb dX3_record_128 rfl (lv_at hl 3 rfl) ?_
          refine og_get (C := RX3) (T := TX3) (N := 14) (g := 0) (i := 0) (v := .ref (ad 9 0)) hx hb hts li_X3_record_X3 hown hC hP (ow_q0_0) rfl rfl 9 (by decide) (hts _ lk_X3_record_3) rfl rfl dX3_record_129 ?_
          refine lv_iload hx hb dX3_record_132 (lv_at hl 0 rfl) ?_
          refine og_iald (g := 9) (i := 0) (j := 2) (v := (st22.1 103 2)) hx hb hC hP (ow_q9_0) rfl (by unfold vp_in; decide) rfl rfl dX3_record_134 ?_
          refine og_iast (g := 8) (i := 6) (j := ((st22.1 4 1).toNatClampNeg)) (v := (st22.1 103 2)) hx hb hC hP hS (ow_q8_6) rfl (by have h9 := sz_in hz1 c_14; subst e22; subst e21; subst e19; subst e18; subst e17; subst e16; subst e15; simp (disch := decide) only [ow_si_ne, pu_fr_1]; exact h9) rfl (we_8 st22 6 ((st22.1 4 1).toNatClampNeg) (st22.1 103 2)) dX3_record_135 (fun H locs hP hS => ?_)
          obtain ⟨st23, e23⟩ : ∃ z, z = (ow_si st22 126 ((st22.1 4 1).toNatClampNeg) (st22.1 103 2)) := ⟨_, rfl⟩
          rw [← e23] at hP
          refine lv_iinc (v := 3) (lv' := [(8, .int 3), (7, .int ((fX3_putTogether_1 st18).1)), (6, .ref (ad 6 1)), (0, .ref (ad 0 0)), (1, .int x1), (2, .int x2), (3, .int x3), (4, .int x4), (5, .int x5)]) hx hb dX3_record_136 hl (k := 0) rfl (by decide) (by decide) rfl (fun ls hl => ?_)
          refine lv_goto (tgt := 105) hx hb dX3_record_139 (by decide) ?_
          refine lv_iload hx hb dX3_record_105 (lv_at hl 0 rfl) ?_
          refine lv_aload hx hb dX3_record_107 (lv_at hl 2 rfl) ?_
          refine og_getN (C := RX2) (T := TX2) (N := 5) (g := 6) (i := 1) (v := .int 4) hx hb hts li_X3_record_X2 hown hC hP (ow_q6_1) rfl rfl 1 (by decide) ln_X3_record_4 rfl rfl dX3_record_109 ?_
          refine lv_icmp_ge (tgt := 142) hx hb dX3_record_112 (by decide) (fun c => absurd c (by decide)) (fun _ => ?_)
          refine lv_aload hx hb dX3_record_115 (lv_at hl 2 rfl) ?_
          refine og_getN (C := RX2) (T := TX2) (N := 5) (g := 6) (i := 1) (v := .ref (ad 7 1)) hx hb hts li_X3_record_X2 hown hC hP (ow_q6_1) rfl rfl 3 (by decide) ln_X3_record_5 rfl rfl dX3_record_117 ?_
          refine lv_iload hx hb dX3_record_120 (lv_at hl 0 rfl) ?_
          refine og_aaldI (g := 7) (i := 1) (v := ad 8 7) hx hb hC hP ow_q7_1 rfl (by unfold vp_in; decide) rfl dX3_record_122 ?_
          refine lv_aload hx hb dX3_record_123 (lv_at hl 2 rfl) ?_
          refine og_getN (C := RX2) (T := TX2) (N := 5) (g := 6) (i := 1) (v := .int (st23.1 4 1)) hx hb hts li_X3_record_X2 hown hC hP (ow_q6_1) rfl rfl 4 (by decide) ln_X3_record_0 rfl rfl dX3_record_125 ?_
          refine lv_aload_n hx hb dX3_record_128 rfl (lv_at hl 3 rfl) ?_
          refine og_get (C := RX3) (T := TX3) (N := 14) (g := 0) (i := 0) (v := .ref (ad 9 0)) hx hb hts li_X3_record_X3 hown hC hP (ow_q0_0) rfl rfl 9 (by decide) (hts _ lk_X3_record_3) rfl rfl dX3_record_129 ?_
          refine lv_iload hx hb dX3_record_132 (lv_at hl 0 rfl) ?_
          refine og_iald (g := 9) (i := 0) (j := 3) (v := (st23.1 103 3)) hx hb hC hP (ow_q9_0) rfl (by unfold vp_in; decide) rfl rfl dX3_record_134 ?_
          refine og_iast (g := 8) (i := 7) (j := ((st23.1 4 1).toNatClampNeg)) (v := (st23.1 103 3)) hx hb hC hP hS (ow_q8_7) rfl (by have h9 := sz_in hz1 c_14; subst e23; subst e22; subst e21; subst e19; subst e18; subst e17; subst e16; subst e15; simp (disch := decide) only [ow_si_ne, pu_fr_1]; exact h9) rfl (we_8 st23 7 ((st23.1 4 1).toNatClampNeg) (st23.1 103 3)) dX3_record_135 (fun H locs hP hS => ?_)
          obtain ⟨st24, e24⟩ : ∃ z, z = (ow_si st23 130 ((st23.1 4 1).toNatClampNeg) (st23.1 103 3)) := ⟨_, rfl⟩
          rw [← e24] at hP
          refine lv_iinc (v := 4) (lv' := [(8, .int 4), (7, .int ((fX3_putTogether_1 st18).1)), (6, .ref (ad 6 1)), (0, .ref (ad 0 0)), (1, .int x1), (2, .int x2), (3, .int x3), (4, .int x4), (5, .int x5)]) hx hb dX3_record_136 hl (k := 0) rfl (by decide) (by decide) rfl (fun ls hl => ?_)
          refine lv_goto (tgt := 105) hx hb dX3_record_139 (by decide) ?_
          refine lv_iload hx hb dX3_record_105 (lv_at hl 0 rfl) ?_
          refine lv_aload hx hb dX3_record_107 (lv_at hl 2 rfl) ?_
          refine og_getN (C := RX2) (T := TX2) (N := 5) (g := 6) (i := 1) (v := .int 4) hx hb hts li_X3_record_X2 hown hC hP (ow_q6_1) rfl rfl 1 (by decide) ln_X3_record_4 rfl rfl dX3_record_109 ?_
          refine lv_icmp_ge (tgt := 142) hx hb dX3_record_112 (by decide) (fun _ => ?_) (fun c => absurd (by decide) c)
          refine lv_aload hx hb dX3_record_142 (lv_at hl 2 rfl) ?_
          refine lv_dup hx hb dX3_record_144 rfl ?_
          refine og_getN (C := RX2) (T := TX2) (N := 5) (g := 6) (i := 1) (v := .int (st24.1 4 1)) hx hb hts li_X3_record_X2 hown hC hP (ow_q6_1) rfl rfl 4 (by decide) ln_X3_record_0 rfl rfl dX3_record_145 ?_
          refine lv_iconst (v := 1) hx hb dX3_record_148 (by decide) ?_
          refine lv_iadd hx hb dX3_record_149 ?_
          refine og_putN (C := RX2) (T := TX2) (N := 5) (g := 6) (i := 1) (v := .int ((st24.1 4 1) + 1)) (ty := .int) hx hb hts li_X3_record_X2 tyX2 tyX2_ok nmX2 hown hC hP hS (ow_q6_1) rfl rfl 4 (by decide) ln_X3_record_0 rfl rfl (by decide +kernel) rfl rfl (Nat.le_of_ble_eq_true rfl) (we_6 st24 1 ((st24.1 4 1) + 1)) dX3_record_150 (fun H locs hP hS => ?_)
          obtain ⟨st25, e25⟩ : ∃ z, z = (ow_si st24 4 1 ((st24.1 4 1) + 1)) := ⟨_, rfl⟩
          rw [← e25] at hP
          refine lv_aload hx hb dX3_record_153 (lv_at hl 2 rfl) ?_
          refine og_getN (C := RX2) (T := TX2) (N := 5) (g := 6) (i := 1) (v := .int (st25.1 4 1)) hx hb hts li_X3_record_X2 hown hC hP (ow_q6_1) rfl rfl 4 (by decide) ln_X3_record_0 rfl rfl dX3_record_155 ?_
          refine lv_iconst (v := 1) hx hb dX3_record_158 (by decide) ?_
          refine lv_isub hx hb dX3_record_159 ?_
          exact W.iret (v := ((st25.1 4 1) - 1)) hx hb hr (fun t ht hW => ⟨⟨((st25.1 4 1) - 1), st25, rfl, (by subst e25; subst e24; subst e23; subst e22; subst e21; subst e19; subst e18; subst e17; subst e16; subst e15; simp only [fX3_record, if_neg c_1, if_pos c_13, if_pos c_14, if_pos c_20]), ow_Bi ht hP⟩, hS.F ht⟩) hS.2.2 dX3_record_160
        · refine lv_iload hx hb dX3_record_99 (lv_at hl 0 rfl) ?_
          exact W.iret (v := (fX3_putTogether_1 st18).1) hx hb hr (fun t ht hW => ⟨⟨(fX3_putTogether_1 st18).1, st19, rfl, (by subst e19; subst e18; subst e17; subst e16; subst e15; simp only [fX3_record, if_neg c_1, if_pos c_13, if_pos c_14, if_neg c_20]), ow_Bi ht hP⟩, hS.F ht⟩) hS.2.2 dX3_record_101
      · refine lv_bipush (v := (-2)) hx hb dX3_record_24 (by decide) ?_
        exact W.iret (v := (-2)) hx hb hr (fun t ht hW => ⟨⟨(-2), st, rfl, (by simp only [fX3_record, if_neg c_1, if_pos c_13, if_neg c_14]), ow_Bi ht hP⟩, hS.F ht⟩) hS.2.2 dX3_record_26
    · refine og_cqN (og_runV (C := RX3) (T := TX3) (N := 14) (g := 0) (i := 0) (As := [.int x1]) (rest := []) ⟨hx, hb, hml, hown, hts⟩ (kX3_tableNumbered l D ca ad A st x1) (cwV 1 hts gX3_record_X3_tableNumbered rfl rfl rfl (by decide +kernel) ⟨Nat.le_of_ble_eq_true rfl, Nat.le_of_ble_eq_true rfl⟩) hC hP hS (ow_q0_0) rfl rfl rfl hl.1 rfl (Nat.le_of_ble_eq_true rfl) dX3_record_2 ⟨Nat.zero_le _, Nat.zero_le _⟩) hS (by simp only [fX3_tableNumbered, if_neg c_1, if_neg c_13]) (fun H locs hP hS => ?_)
      refine lv_astoreN (lv' := [(6, .null), (0, .ref (ad 0 0)), (1, .int x1), (2, .int x2), (3, .int x3), (4, .int x4), (5, .int x5)]) hx hb dX3_record_5 hl (by decide) rfl (fun ls hl => ?_)
      refine lv_aloadN hx hb dX3_record_7 (lv_at hl 0 rfl) ?_
      refine lv_ifnonnullN hx hb dX3_record_9 ?_
      refine lv_iconst (v := (-1)) hx hb dX3_record_12 (by decide) ?_
      exact W.iret (v := (-1)) hx hb hr (fun t ht hW => ⟨⟨(-1), st, rfl, (by simp only [fX3_record, if_neg c_1, if_neg c_13]), ow_Bi ht hP⟩, hS.F ht⟩) hS.2.2 dX3_record_13

theorem ln_X3_lay_0 : (.methodLinkNest RX3 178 yX2_hasRecord "RecordLabels" : Cond) ∈ ow_nest := by decide +kernel
theorem lk_X3_lay_1 : (.initialized RX2 : Cond) ∈ wsX3_lay := by decide +kernel
theorem lk_X3_lay_2 : (.instanceMethod yX2_hasRecord : Cond) ∈ wsX3_lay := by decide +kernel
theorem lk_X3_lay_3 : (.selects RX2 yX2_hasRecord yX2_hasRecord : Cond) ∈ wsX3_lay := by decide +kernel
theorem ln_X3_lay_4 : (.methodLinkNest RX3 181 yX2_hasItem "RecordLabels" : Cond) ∈ ow_nest := by decide +kernel
theorem lk_X3_lay_5 : (.instanceMethod yX2_hasItem : Cond) ∈ wsX3_lay := by decide +kernel
theorem lk_X3_lay_6 : (.selects RX2 yX2_hasItem yX2_hasItem : Cond) ∈ wsX3_lay := by decide +kernel
theorem ln_X3_lay_7 : (.fieldLinkNest RX3 174 "RecordLabels$Table" "columns" "[[I" "RecordLabels" : Cond) ∈ ow_nest := by decide +kernel
theorem li_X3_lay_X2 : ∀ w ∈ u_ws RX2 TX2 5, w ∈ wsX3_lay := by decide +kernel
def fX3_lay (st : ow_St) (x1 x2 x3 x4 : Int32) : Int32 × ow_St := (if x1 = 0 then (if (fX2_hasRecord_0 st x2) = 0 then ((-1), st) else (if (fX2_hasItem_0 st x3) = 0 then ((-1), st) else (let st4 := (ow_si st (102 + 4 * (4 * 0 + x3.toNatClampNeg)) x2.toNatClampNeg (fX3_toCell_0 st x3 x4)); (1, st4)))) else (if x1 = 1 then (if (fX2_hasRecord_1 st x2) = 0 then ((-1), st) else (if (fX2_hasItem_1 st x3) = 0 then ((-1), st) else (let st8 := (ow_si st (102 + 4 * (4 * 1 + x3.toNatClampNeg)) x2.toNatClampNeg (fX3_toCell_1 st x3 x4)); (1, st8)))) else ((-1), st)))
set_option maxHeartbeats 4000000 in
set_option maxRecDepth 100000 in
theorem kX3_lay (l : Launch) (D : va_G) (ca : Nat → ClassId) (ad : ow_Ad) (A : Nat → Prop) (st : ow_St) (x1 : Int32) (x2 : Int32) (x3 : Int32) (x4 : Int32) (hz0 : iv_sz st 0) (hz1 : iv_sz st 1) : Met l yX3_lay wsX3_lay ({ frames := 3, cells := 0, slots := 0, locals := 66 }) (va_Pc [.ref (ad 0 0), .int x1, .int x2, .int x3, .int x4] (ow_W D ca ad A st)) (va_Qi (fun r st' => (r, st') = (fX3_lay st x1 x2 x3 x4)) (ow_B D ca ad) A) 0 0 A := by
  refine Met.ofW (cc := cX3_lay) (maxL := 6) (ret := (some .int)) (by decide) rfl ?_
  intro p e s m args below meth c s₁ B hml hv
  obtain ⟨rfl, hP, hC⟩ := hv
  have hx := B.exec
  have hb := B.bytes
  have hr := B.returns
  have hts := atoms_spec (ws := wsX3_lay) B.pre
  have hown : s.vm.findClass RX3 = some m.cls := findClass_of_methodNamed B.named
  have hlocks := B.notSynchronized
  have hS : va_S A s.heap s.heap [] := va_S.rf
  have hl := lv_entry ([.ref (ad 0 0), .int x1, .int x2, .int x3, .int x4]) (n := 6) (Nat.le_of_ble_eq_true rfl)
  rw [lg_entry_eq]
  generalize (lg_sl ([.ref (ad 0 0), .int x1, .int x2, .int x3, .int x4]) ++ List.replicate (6 - (lg_sl ([.ref (ad 0 0), .int x1, .int x2, .int x3, .int x4])).length) Slot.unset).toArray = ls at hl ⊢
  have hl : lv_has ls 6 [(0, .ref (ad 0 0)), (1, .int x1), (2, .int x2), (3, .int x3), (4, .int x4)] := hl
  refine lv_aload_n hx hb dX3_lay_0 rfl (lv_at hl 0 rfl) ?_
  refine lv_iload_n hx hb dX3_lay_1 rfl (lv_at hl 1 rfl) ?_
  by_cases c_1 : x1 = 0
  · refine og_cqS (q := ad 6 0) (og_runV (C := RX3) (T := TX3) (N := 14) (g := 0) (i := 0) (As := [.int x1]) (rest := []) ⟨hx, hb, hml, hown, hts⟩ (kX3_tableNumbered l D ca ad A st x1) (cwV 1 hts gX3_lay_X3_tableNumbered rfl rfl rfl (by decide +kernel) ⟨Nat.le_of_ble_eq_true rfl, Nat.le_of_ble_eq_true rfl⟩) hC hP hS (ow_q0_0) rfl rfl rfl hl.1 rfl (Nat.le_of_ble_eq_true rfl) dX3_lay_2 ⟨Nat.zero_le _, Nat.zero_le _⟩) hS (by simp only [fX3_tableNumbered, if_pos c_1]) (fun H locs hP hS => ?_)
    refine lv_astore (lv' := [(5, .ref (ad 6 0)), (0, .ref (ad 0 0)), (1, .int x1), (2, .int x2), (3, .int x3), (4, .int x4)]) hx hb dX3_lay_5 hl (by decide) rfl (fun ls hl => ?_)
    refine lv_aload hx hb dX3_lay_7 (lv_at hl 0 rfl) ?_
    refine lv_ifnull hx hb dX3_lay_9 ?_
    refine lv_aload hx hb dX3_lay_12 (lv_at hl 0 rfl) ?_
    refine lv_iload_n hx hb dX3_lay_14 rfl (lv_at hl 3 rfl) ?_
    refine og_ciP (og_runVN (C := RX2) (T := TX2) (N := 5) (g := 6) (i := 0) (As := [.int x2]) (rest := []) ⟨hx, hb, hml, hown, hts⟩ (kX2_hasRecord_0 l D ca ad A st x2) ⟨va_cnB 1 hts gX3_lay_X2_hasRecord_n178 rfl rfl rfl (hC.2.2.1 _ ln_X3_lay_0) (hts _ lk_X3_lay_1) (by decide +kernel) ⟨Nat.le_of_ble_eq_true rfl, Nat.le_of_ble_eq_true rfl⟩, (hts _ lk_X3_lay_2), (hts _ lk_X3_lay_3)⟩ hC hP hS (ow_q6_0) rfl rfl rfl hl.1 rfl (Nat.le_of_ble_eq_true rfl) dX3_lay_15 ⟨Nat.zero_le _, Nat.zero_le _⟩) hS (fun H locs hP hS => ?_)
    refine lv_if_eq (tgt := 30) hx hb dX3_lay_18 (by decide) (fun c_2 => ?_) (fun c_2 => ?_)
    · refine lv_iconst (v := (-1)) hx hb dX3_lay_30 (by decide) ?_
      exact W.iret (v := (-1)) hx hb hr (fun t ht hW => ⟨⟨(-1), st, rfl, (by simp only [fX3_lay, if_pos c_1, if_pos c_2]), ow_Bi ht hP⟩, hS.F ht⟩) hS.2.2 dX3_lay_31
    · refine lv_aload hx hb dX3_lay_21 (lv_at hl 0 rfl) ?_
      refine lv_iload_n hx hb dX3_lay_23 rfl (lv_at hl 4 rfl) ?_
      refine og_ciP (og_runVN (C := RX2) (T := TX2) (N := 5) (g := 6) (i := 0) (As := [.int x3]) (rest := []) ⟨hx, hb, hml, hown, hts⟩ (kX2_hasItem_0 l D ca ad A st x3) ⟨va_cnB 1 hts gX3_lay_X2_hasItem_n181 rfl rfl rfl (hC.2.2.1 _ ln_X3_lay_4) (hts _ lk_X3_lay_1) (by decide +kernel) ⟨Nat.le_of_ble_eq_true rfl, Nat.le_of_ble_eq_true rfl⟩, (hts _ lk_X3_lay_5), (hts _ lk_X3_lay_6)⟩ hC hP hS (ow_q6_0) rfl rfl rfl hl.1 rfl (Nat.le_of_ble_eq_true rfl) dX3_lay_24 ⟨Nat.zero_le _, Nat.zero_le _⟩) hS (fun H locs hP hS => ?_)
      refine lv_if_ne (tgt := 32) hx hb dX3_lay_27 (by decide) (fun c_3 => ?_) (fun c_3 => ?_)
      · refine lv_aload hx hb dX3_lay_32 (lv_at hl 0 rfl) ?_
        refine og_getN (C := RX2) (T := TX2) (N := 5) (g := 6) (i := 0) (v := .ref (ad 7 0)) hx hb hts li_X3_lay_X2 hown hC hP (ow_q6_0) rfl rfl 3 (by decide) ln_X3_lay_7 rfl rfl dX3_lay_34 ?_
        refine lv_iload_n hx hb dX3_lay_37 rfl (lv_at hl 4 rfl) ?_
        refine og_aaldI (g := 7) (i := 0) (v := ad 8 (4 * 0 + x3.toNatClampNeg)) hx hb hC hP ow_q7_0 rfl (itm_in_0 c_3) (if_pos (vp_lt (itm_in_0 c_3))) dX3_lay_38 ?_
        refine lv_iload_n hx hb dX3_lay_39 rfl (lv_at hl 3 rfl) ?_
        refine lv_aload_n hx hb dX3_lay_40 rfl (lv_at hl 1 rfl) ?_
        refine lv_aload hx hb dX3_lay_41 (lv_at hl 0 rfl) ?_
        refine lv_iload_n hx hb dX3_lay_43 rfl (lv_at hl 4 rfl) ?_
        refine lv_iload hx hb dX3_lay_44 (lv_at hl 5 rfl) ?_
        refine og_ciP (og_runV (C := RX3) (T := TX3) (N := 14) (g := 0) (i := 0) (As := [.ref (ad 6 0), .int x3, .int x4]) (rest := [.int x2, .ref (ad 8 (4 * 0 + x3.toNatClampNeg))]) ⟨hx, hb, hml, hown, hts⟩ (kX3_toCell_0 l D ca ad A st x3 x4) (cwV 3 hts gX3_lay_X3_toCell rfl rfl rfl (by decide +kernel) ⟨Nat.le_of_ble_eq_true rfl, Nat.le_of_ble_eq_true rfl⟩) hC hP hS (ow_q0_0) rfl rfl rfl hl.1 rfl (Nat.le_of_ble_eq_true rfl) dX3_lay_46 ⟨Nat.zero_le _, Nat.zero_le _⟩) hS (fun H locs hP hS => ?_)
        refine og_iast (g := 8) (i := (4 * 0 + x3.toNatClampNeg)) (j := x2.toNatClampNeg) (v := (fX3_toCell_0 st x3 x4)) hx hb hC hP hS (ow_m8 (itm_b8_0 c_3)) rfl (rec_in_0 hz0 c_2) rfl (we_8 st (4 * 0 + x3.toNatClampNeg) x2.toNatClampNeg (fX3_toCell_0 st x3 x4)) dX3_lay_49 (fun H locs hP hS => ?_)
        obtain ⟨st4, e4⟩ : ∃ z, z = (ow_si st (102 + 4 * (4 * 0 + x3.toNatClampNeg)) x2.toNatClampNeg (fX3_toCell_0 st x3 x4)) := ⟨_, rfl⟩
        rw [← e4] at hP
        refine lv_iconst (v := 1) hx hb dX3_lay_50 (by decide) ?_
        exact W.iret (v := 1) hx hb hr (fun t ht hW => ⟨⟨1, st4, rfl, (by subst e4; simp only [fX3_lay, if_pos c_1, if_neg c_2, if_neg c_3]), ow_Bi ht hP⟩, hS.F ht⟩) hS.2.2 dX3_lay_51
      · refine lv_iconst (v := (-1)) hx hb dX3_lay_30 (by decide) ?_
        exact W.iret (v := (-1)) hx hb hr (fun t ht hW => ⟨⟨(-1), st, rfl, (by simp only [fX3_lay, if_pos c_1, if_neg c_2, if_pos c_3]), ow_Bi ht hP⟩, hS.F ht⟩) hS.2.2 dX3_lay_31
  · by_cases c_5 : x1 = 1
    · refine og_cqS (q := ad 6 1) (og_runV (C := RX3) (T := TX3) (N := 14) (g := 0) (i := 0) (As := [.int x1]) (rest := []) ⟨hx, hb, hml, hown, hts⟩ (kX3_tableNumbered l D ca ad A st x1) (cwV 1 hts gX3_lay_X3_tableNumbered rfl rfl rfl (by decide +kernel) ⟨Nat.le_of_ble_eq_true rfl, Nat.le_of_ble_eq_true rfl⟩) hC hP hS (ow_q0_0) rfl rfl rfl hl.1 rfl (Nat.le_of_ble_eq_true rfl) dX3_lay_2 ⟨Nat.zero_le _, Nat.zero_le _⟩) hS (by simp only [fX3_tableNumbered, if_neg c_1, if_pos c_5]) (fun H locs hP hS => ?_)
      refine lv_astore (lv' := [(5, .ref (ad 6 1)), (0, .ref (ad 0 0)), (1, .int x1), (2, .int x2), (3, .int x3), (4, .int x4)]) hx hb dX3_lay_5 hl (by decide) rfl (fun ls hl => ?_)
      refine lv_aload hx hb dX3_lay_7 (lv_at hl 0 rfl) ?_
      refine lv_ifnull hx hb dX3_lay_9 ?_
      refine lv_aload hx hb dX3_lay_12 (lv_at hl 0 rfl) ?_
      refine lv_iload_n hx hb dX3_lay_14 rfl (lv_at hl 3 rfl) ?_
      refine og_ciP (og_runVN (C := RX2) (T := TX2) (N := 5) (g := 6) (i := 1) (As := [.int x2]) (rest := []) ⟨hx, hb, hml, hown, hts⟩ (kX2_hasRecord_1 l D ca ad A st x2) ⟨va_cnB 1 hts gX3_lay_X2_hasRecord_n178 rfl rfl rfl (hC.2.2.1 _ ln_X3_lay_0) (hts _ lk_X3_lay_1) (by decide +kernel) ⟨Nat.le_of_ble_eq_true rfl, Nat.le_of_ble_eq_true rfl⟩, (hts _ lk_X3_lay_2), (hts _ lk_X3_lay_3)⟩ hC hP hS (ow_q6_1) rfl rfl rfl hl.1 rfl (Nat.le_of_ble_eq_true rfl) dX3_lay_15 ⟨Nat.zero_le _, Nat.zero_le _⟩) hS (fun H locs hP hS => ?_)
      refine lv_if_eq (tgt := 30) hx hb dX3_lay_18 (by decide) (fun c_6 => ?_) (fun c_6 => ?_)
      · refine lv_iconst (v := (-1)) hx hb dX3_lay_30 (by decide) ?_
        exact W.iret (v := (-1)) hx hb hr (fun t ht hW => ⟨⟨(-1), st, rfl, (by simp only [fX3_lay, if_neg c_1, if_pos c_5, if_pos c_6]), ow_Bi ht hP⟩, hS.F ht⟩) hS.2.2 dX3_lay_31
      · refine lv_aload hx hb dX3_lay_21 (lv_at hl 0 rfl) ?_
        refine lv_iload_n hx hb dX3_lay_23 rfl (lv_at hl 4 rfl) ?_
        refine og_ciP (og_runVN (C := RX2) (T := TX2) (N := 5) (g := 6) (i := 1) (As := [.int x3]) (rest := []) ⟨hx, hb, hml, hown, hts⟩ (kX2_hasItem_1 l D ca ad A st x3) ⟨va_cnB 1 hts gX3_lay_X2_hasItem_n181 rfl rfl rfl (hC.2.2.1 _ ln_X3_lay_4) (hts _ lk_X3_lay_1) (by decide +kernel) ⟨Nat.le_of_ble_eq_true rfl, Nat.le_of_ble_eq_true rfl⟩, (hts _ lk_X3_lay_5), (hts _ lk_X3_lay_6)⟩ hC hP hS (ow_q6_1) rfl rfl rfl hl.1 rfl (Nat.le_of_ble_eq_true rfl) dX3_lay_24 ⟨Nat.zero_le _, Nat.zero_le _⟩) hS (fun H locs hP hS => ?_)
        refine lv_if_ne (tgt := 32) hx hb dX3_lay_27 (by decide) (fun c_7 => ?_) (fun c_7 => ?_)
        · refine lv_aload hx hb dX3_lay_32 (lv_at hl 0 rfl) ?_
          refine og_getN (C := RX2) (T := TX2) (N := 5) (g := 6) (i := 1) (v := .ref (ad 7 1)) hx hb hts li_X3_lay_X2 hown hC hP (ow_q6_1) rfl rfl 3 (by decide) ln_X3_lay_7 rfl rfl dX3_lay_34 ?_
          refine lv_iload_n hx hb dX3_lay_37 rfl (lv_at hl 4 rfl) ?_
          refine og_aaldI (g := 7) (i := 1) (v := ad 8 (4 * 1 + x3.toNatClampNeg)) hx hb hC hP ow_q7_1 rfl (itm_in_1 c_7) (if_pos (vp_lt (itm_in_1 c_7))) dX3_lay_38 ?_
          refine lv_iload_n hx hb dX3_lay_39 rfl (lv_at hl 3 rfl) ?_
          refine lv_aload_n hx hb dX3_lay_40 rfl (lv_at hl 1 rfl) ?_
          refine lv_aload hx hb dX3_lay_41 (lv_at hl 0 rfl) ?_
          refine lv_iload_n hx hb dX3_lay_43 rfl (lv_at hl 4 rfl) ?_
          refine lv_iload hx hb dX3_lay_44 (lv_at hl 5 rfl) ?_
          refine og_ciP (og_runV (C := RX3) (T := TX3) (N := 14) (g := 0) (i := 0) (As := [.ref (ad 6 1), .int x3, .int x4]) (rest := [.int x2, .ref (ad 8 (4 * 1 + x3.toNatClampNeg))]) ⟨hx, hb, hml, hown, hts⟩ (kX3_toCell_1 l D ca ad A st x3 x4) (cwV 3 hts gX3_lay_X3_toCell rfl rfl rfl (by decide +kernel) ⟨Nat.le_of_ble_eq_true rfl, Nat.le_of_ble_eq_true rfl⟩) hC hP hS (ow_q0_0) rfl rfl rfl hl.1 rfl (Nat.le_of_ble_eq_true rfl) dX3_lay_46 ⟨Nat.zero_le _, Nat.zero_le _⟩) hS (fun H locs hP hS => ?_)
          refine og_iast (g := 8) (i := (4 * 1 + x3.toNatClampNeg)) (j := x2.toNatClampNeg) (v := (fX3_toCell_1 st x3 x4)) hx hb hC hP hS (ow_m8 (itm_b8_1 c_7)) rfl (rec_in_1 hz1 c_6) rfl (we_8 st (4 * 1 + x3.toNatClampNeg) x2.toNatClampNeg (fX3_toCell_1 st x3 x4)) dX3_lay_49 (fun H locs hP hS => ?_)
          obtain ⟨st8, e8⟩ : ∃ z, z = (ow_si st (102 + 4 * (4 * 1 + x3.toNatClampNeg)) x2.toNatClampNeg (fX3_toCell_1 st x3 x4)) := ⟨_, rfl⟩
          rw [← e8] at hP
          refine lv_iconst (v := 1) hx hb dX3_lay_50 (by decide) ?_
          exact W.iret (v := 1) hx hb hr (fun t ht hW => ⟨⟨1, st8, rfl, (by subst e8; simp only [fX3_lay, if_neg c_1, if_pos c_5, if_neg c_6, if_neg c_7]), ow_Bi ht hP⟩, hS.F ht⟩) hS.2.2 dX3_lay_51
        · refine lv_iconst (v := (-1)) hx hb dX3_lay_30 (by decide) ?_
          exact W.iret (v := (-1)) hx hb hr (fun t ht hW => ⟨⟨(-1), st, rfl, (by simp only [fX3_lay, if_neg c_1, if_pos c_5, if_neg c_6, if_pos c_7]), ow_Bi ht hP⟩, hS.F ht⟩) hS.2.2 dX3_lay_31
    · refine og_cqN (og_runV (C := RX3) (T := TX3) (N := 14) (g := 0) (i := 0) (As := [.int x1]) (rest := []) ⟨hx, hb, hml, hown, hts⟩ (kX3_tableNumbered l D ca ad A st x1) (cwV 1 hts gX3_lay_X3_tableNumbered rfl rfl rfl (by decide +kernel) ⟨Nat.le_of_ble_eq_true rfl, Nat.le_of_ble_eq_true rfl⟩) hC hP hS (ow_q0_0) rfl rfl rfl hl.1 rfl (Nat.le_of_ble_eq_true rfl) dX3_lay_2 ⟨Nat.zero_le _, Nat.zero_le _⟩) hS (by simp only [fX3_tableNumbered, if_neg c_1, if_neg c_5]) (fun H locs hP hS => ?_)
      refine lv_astoreN (lv' := [(5, .null), (0, .ref (ad 0 0)), (1, .int x1), (2, .int x2), (3, .int x3), (4, .int x4)]) hx hb dX3_lay_5 hl (by decide) rfl (fun ls hl => ?_)
      refine lv_aloadN hx hb dX3_lay_7 (lv_at hl 0 rfl) ?_
      refine lv_ifnullN (tgt := 30) hx hb dX3_lay_9 (by decide) ?_
      refine lv_iconst (v := (-1)) hx hb dX3_lay_30 (by decide) ?_
      exact W.iret (v := (-1)) hx hb hr (fun t ht hW => ⟨⟨(-1), st, rfl, (by simp only [fX3_lay, if_neg c_1, if_neg c_5]), ow_Bi ht hP⟩, hS.F ht⟩) hS.2.2 dX3_lay_31

theorem ln_X3_cell_0 : (.methodLinkNest RX3 178 yX2_hasRecord "RecordLabels" : Cond) ∈ ow_nest := by decide +kernel
theorem lk_X3_cell_1 : (.initialized RX2 : Cond) ∈ wsX3_cell := by decide +kernel
theorem lk_X3_cell_2 : (.instanceMethod yX2_hasRecord : Cond) ∈ wsX3_cell := by decide +kernel
theorem lk_X3_cell_3 : (.selects RX2 yX2_hasRecord yX2_hasRecord : Cond) ∈ wsX3_cell := by decide +kernel
theorem lk_X3_cell_4 : (.constant RX3 184 (-2000000000) : Cond) ∈ wsX3_cell := by decide +kernel
theorem ln_X3_cell_5 : (.methodLinkNest RX3 181 yX2_hasItem "RecordLabels" : Cond) ∈ ow_nest := by decide +kernel
theorem lk_X3_cell_6 : (.instanceMethod yX2_hasItem : Cond) ∈ wsX3_cell := by decide +kernel
theorem lk_X3_cell_7 : (.selects RX2 yX2_hasItem yX2_hasItem : Cond) ∈ wsX3_cell := by decide +kernel
theorem ln_X3_cell_8 : (.fieldLinkNest RX3 174 "RecordLabels$Table" "columns" "[[I" "RecordLabels" : Cond) ∈ ow_nest := by decide +kernel
theorem li_X3_cell_X2 : ∀ w ∈ u_ws RX2 TX2 5, w ∈ wsX3_cell := by decide +kernel
def fX3_cell (st : ow_St) (x1 x2 x3 : Int32) : Int32 := (if x1 = 0 then (if (fX2_hasRecord_0 st x2) = 0 then (-2000000000) else (if (fX2_hasItem_0 st x3) = 0 then (-2000000000) else (fX3_fromCell_0 st x3 (st.1 (102 + 4 * (4 * 0 + x3.toNatClampNeg)) x2.toNatClampNeg)))) else (if x1 = 1 then (if (fX2_hasRecord_1 st x2) = 0 then (-2000000000) else (if (fX2_hasItem_1 st x3) = 0 then (-2000000000) else (fX3_fromCell_1 st x3 (st.1 (102 + 4 * (4 * 1 + x3.toNatClampNeg)) x2.toNatClampNeg)))) else (-2000000000)))
set_option maxHeartbeats 4000000 in
set_option maxRecDepth 100000 in
theorem kX3_cell (l : Launch) (D : va_G) (ca : Nat → ClassId) (ad : ow_Ad) (A : Nat → Prop) (st : ow_St) (x1 : Int32) (x2 : Int32) (x3 : Int32) (hz0 : iv_sz st 0) (hz1 : iv_sz st 1) : Met l yX3_cell wsX3_cell ({ frames := 3, cells := 0, slots := 0, locals := 66 }) (va_Pc [.ref (ad 0 0), .int x1, .int x2, .int x3] (ow_W D ca ad A st)) (va_Qi (fun r st' => r = (fX3_cell st x1 x2 x3) ∧ st' = st) (ow_B D ca ad) A) 0 0 A := by
  refine Met.ofW (cc := cX3_cell) (maxL := 5) (ret := (some .int)) (by decide) rfl ?_
  intro p e s m args below meth c s₁ B hml hv
  obtain ⟨rfl, hP, hC⟩ := hv
  have hx := B.exec
  have hb := B.bytes
  have hr := B.returns
  have hts := atoms_spec (ws := wsX3_cell) B.pre
  have hown : s.vm.findClass RX3 = some m.cls := findClass_of_methodNamed B.named
  have hlocks := B.notSynchronized
  have hS : va_S A s.heap s.heap [] := va_S.rf
  have hl := lv_entry ([.ref (ad 0 0), .int x1, .int x2, .int x3]) (n := 5) (Nat.le_of_ble_eq_true rfl)
  rw [lg_entry_eq]
  generalize (lg_sl ([.ref (ad 0 0), .int x1, .int x2, .int x3]) ++ List.replicate (5 - (lg_sl ([.ref (ad 0 0), .int x1, .int x2, .int x3])).length) Slot.unset).toArray = ls at hl ⊢
  have hl : lv_has ls 5 [(0, .ref (ad 0 0)), (1, .int x1), (2, .int x2), (3, .int x3)] := hl
  refine lv_aload_n hx hb dX3_cell_0 rfl (lv_at hl 0 rfl) ?_
  refine lv_iload_n hx hb dX3_cell_1 rfl (lv_at hl 1 rfl) ?_
  by_cases c_1 : x1 = 0
  · refine og_cqS (q := ad 6 0) (og_runV (C := RX3) (T := TX3) (N := 14) (g := 0) (i := 0) (As := [.int x1]) (rest := []) ⟨hx, hb, hml, hown, hts⟩ (kX3_tableNumbered l D ca ad A st x1) (cwV 1 hts gX3_cell_X3_tableNumbered rfl rfl rfl (by decide +kernel) ⟨Nat.le_of_ble_eq_true rfl, Nat.le_of_ble_eq_true rfl⟩) hC hP hS (ow_q0_0) rfl rfl rfl hl.1 rfl (Nat.le_of_ble_eq_true rfl) dX3_cell_2 ⟨Nat.zero_le _, Nat.zero_le _⟩) hS (by simp only [fX3_tableNumbered, if_pos c_1]) (fun H locs hP hS => ?_)
    refine lv_astore (lv' := [(4, .ref (ad 6 0)), (0, .ref (ad 0 0)), (1, .int x1), (2, .int x2), (3, .int x3)]) hx hb dX3_cell_5 hl (by decide) rfl (fun ls hl => ?_)
    refine lv_aload hx hb dX3_cell_7 (lv_at hl 0 rfl) ?_
    refine lv_ifnull hx hb dX3_cell_9 ?_
    refine lv_aload hx hb dX3_cell_12 (lv_at hl 0 rfl) ?_
    refine lv_iload_n hx hb dX3_cell_14 rfl (lv_at hl 3 rfl) ?_
    refine og_ciP (og_runVN (C := RX2) (T := TX2) (N := 5) (g := 6) (i := 0) (As := [.int x2]) (rest := []) ⟨hx, hb, hml, hown, hts⟩ (kX2_hasRecord_0 l D ca ad A st x2) ⟨va_cnB 1 hts gX3_cell_X2_hasRecord_n178 rfl rfl rfl (hC.2.2.1 _ ln_X3_cell_0) (hts _ lk_X3_cell_1) (by decide +kernel) ⟨Nat.le_of_ble_eq_true rfl, Nat.le_of_ble_eq_true rfl⟩, (hts _ lk_X3_cell_2), (hts _ lk_X3_cell_3)⟩ hC hP hS (ow_q6_0) rfl rfl rfl hl.1 rfl (Nat.le_of_ble_eq_true rfl) dX3_cell_15 ⟨Nat.zero_le _, Nat.zero_le _⟩) hS (fun H locs hP hS => ?_)
    refine lv_if_eq (tgt := 30) hx hb dX3_cell_18 (by decide) (fun c_2 => ?_) (fun c_2 => ?_)
    · refine lv_ldc (v := (-2000000000)) hx hb hown (hts _ lk_X3_cell_4) dX3_cell_30 ?_
      exact W.iret (v := (-2000000000)) hx hb hr (fun t ht hW => ⟨⟨(-2000000000), st, rfl, ⟨(by simp only [fX3_cell, if_pos c_1, if_pos c_2]), rfl⟩, ow_Bi ht hP⟩, hS.F ht⟩) hS.2.2 dX3_cell_32
    · refine lv_aload hx hb dX3_cell_21 (lv_at hl 0 rfl) ?_
      refine lv_iload_n hx hb dX3_cell_23 rfl (lv_at hl 4 rfl) ?_
      refine og_ciP (og_runVN (C := RX2) (T := TX2) (N := 5) (g := 6) (i := 0) (As := [.int x3]) (rest := []) ⟨hx, hb, hml, hown, hts⟩ (kX2_hasItem_0 l D ca ad A st x3) ⟨va_cnB 1 hts gX3_cell_X2_hasItem_n181 rfl rfl rfl (hC.2.2.1 _ ln_X3_cell_5) (hts _ lk_X3_cell_1) (by decide +kernel) ⟨Nat.le_of_ble_eq_true rfl, Nat.le_of_ble_eq_true rfl⟩, (hts _ lk_X3_cell_6), (hts _ lk_X3_cell_7)⟩ hC hP hS (ow_q6_0) rfl rfl rfl hl.1 rfl (Nat.le_of_ble_eq_true rfl) dX3_cell_24 ⟨Nat.zero_le _, Nat.zero_le _⟩) hS (fun H locs hP hS => ?_)
      refine lv_if_ne (tgt := 33) hx hb dX3_cell_27 (by decide) (fun c_3 => ?_) (fun c_3 => ?_)
      · refine lv_aload_n hx hb dX3_cell_33 rfl (lv_at hl 1 rfl) ?_
        refine lv_aload hx hb dX3_cell_34 (lv_at hl 0 rfl) ?_
        refine lv_iload_n hx hb dX3_cell_36 rfl (lv_at hl 4 rfl) ?_
        refine lv_aload hx hb dX3_cell_37 (lv_at hl 0 rfl) ?_
        refine og_getN (C := RX2) (T := TX2) (N := 5) (g := 6) (i := 0) (v := .ref (ad 7 0)) hx hb hts li_X3_cell_X2 hown hC hP (ow_q6_0) rfl rfl 3 (by decide) ln_X3_cell_8 rfl rfl dX3_cell_39 ?_
        refine lv_iload_n hx hb dX3_cell_42 rfl (lv_at hl 4 rfl) ?_
        refine og_aaldI (g := 7) (i := 0) (v := ad 8 (4 * 0 + x3.toNatClampNeg)) hx hb hC hP ow_q7_0 rfl (itm_in_0 c_3) (if_pos (vp_lt (itm_in_0 c_3))) dX3_cell_43 ?_
        refine lv_iload_n hx hb dX3_cell_44 rfl (lv_at hl 3 rfl) ?_
        refine og_iald (g := 8) (i := (4 * 0 + x3.toNatClampNeg)) (j := x2.toNatClampNeg) (v := (st.1 (102 + 4 * (4 * 0 + x3.toNatClampNeg)) x2.toNatClampNeg)) hx hb hC hP (ow_m8 (itm_b8_0 c_3)) rfl (rec_in_0 hz0 c_2) rfl rfl dX3_cell_45 ?_
        refine og_ciP (og_runV (C := RX3) (T := TX3) (N := 14) (g := 0) (i := 0) (As := [.ref (ad 6 0), .int x3, .int (st.1 (102 + 4 * (4 * 0 + x3.toNatClampNeg)) x2.toNatClampNeg)]) (rest := []) ⟨hx, hb, hml, hown, hts⟩ (kX3_fromCell_0 l D ca ad A st x3 (st.1 (102 + 4 * (4 * 0 + x3.toNatClampNeg)) x2.toNatClampNeg)) (cwV 3 hts gX3_cell_X3_fromCell rfl rfl rfl (by decide +kernel) ⟨Nat.le_of_ble_eq_true rfl, Nat.le_of_ble_eq_true rfl⟩) hC hP hS (ow_q0_0) rfl rfl rfl hl.1 rfl (Nat.le_of_ble_eq_true rfl) dX3_cell_46 ⟨Nat.zero_le _, Nat.zero_le _⟩) hS (fun H locs hP hS => ?_)
        exact W.iret (v := (fX3_fromCell_0 st x3 (st.1 (102 + 4 * (4 * 0 + x3.toNatClampNeg)) x2.toNatClampNeg))) hx hb hr (fun t ht hW => ⟨⟨(fX3_fromCell_0 st x3 (st.1 (102 + 4 * (4 * 0 + x3.toNatClampNeg)) x2.toNatClampNeg)), st, rfl, ⟨(by simp only [fX3_cell, if_pos c_1, if_neg c_2, if_neg c_3]), rfl⟩, ow_Bi ht hP⟩, hS.F ht⟩) hS.2.2 dX3_cell_49
      · refine lv_ldc (v := (-2000000000)) hx hb hown (hts _ lk_X3_cell_4) dX3_cell_30 ?_
        exact W.iret (v := (-2000000000)) hx hb hr (fun t ht hW => ⟨⟨(-2000000000), st, rfl, ⟨(by simp only [fX3_cell, if_pos c_1, if_neg c_2, if_pos c_3]), rfl⟩, ow_Bi ht hP⟩, hS.F ht⟩) hS.2.2 dX3_cell_32
  · by_cases c_4 : x1 = 1
    · refine og_cqS (q := ad 6 1) (og_runV (C := RX3) (T := TX3) (N := 14) (g := 0) (i := 0) (As := [.int x1]) (rest := []) ⟨hx, hb, hml, hown, hts⟩ (kX3_tableNumbered l D ca ad A st x1) (cwV 1 hts gX3_cell_X3_tableNumbered rfl rfl rfl (by decide +kernel) ⟨Nat.le_of_ble_eq_true rfl, Nat.le_of_ble_eq_true rfl⟩) hC hP hS (ow_q0_0) rfl rfl rfl hl.1 rfl (Nat.le_of_ble_eq_true rfl) dX3_cell_2 ⟨Nat.zero_le _, Nat.zero_le _⟩) hS (by simp only [fX3_tableNumbered, if_neg c_1, if_pos c_4]) (fun H locs hP hS => ?_)
      refine lv_astore (lv' := [(4, .ref (ad 6 1)), (0, .ref (ad 0 0)), (1, .int x1), (2, .int x2), (3, .int x3)]) hx hb dX3_cell_5 hl (by decide) rfl (fun ls hl => ?_)
      refine lv_aload hx hb dX3_cell_7 (lv_at hl 0 rfl) ?_
      refine lv_ifnull hx hb dX3_cell_9 ?_
      refine lv_aload hx hb dX3_cell_12 (lv_at hl 0 rfl) ?_
      refine lv_iload_n hx hb dX3_cell_14 rfl (lv_at hl 3 rfl) ?_
      refine og_ciP (og_runVN (C := RX2) (T := TX2) (N := 5) (g := 6) (i := 1) (As := [.int x2]) (rest := []) ⟨hx, hb, hml, hown, hts⟩ (kX2_hasRecord_1 l D ca ad A st x2) ⟨va_cnB 1 hts gX3_cell_X2_hasRecord_n178 rfl rfl rfl (hC.2.2.1 _ ln_X3_cell_0) (hts _ lk_X3_cell_1) (by decide +kernel) ⟨Nat.le_of_ble_eq_true rfl, Nat.le_of_ble_eq_true rfl⟩, (hts _ lk_X3_cell_2), (hts _ lk_X3_cell_3)⟩ hC hP hS (ow_q6_1) rfl rfl rfl hl.1 rfl (Nat.le_of_ble_eq_true rfl) dX3_cell_15 ⟨Nat.zero_le _, Nat.zero_le _⟩) hS (fun H locs hP hS => ?_)
      refine lv_if_eq (tgt := 30) hx hb dX3_cell_18 (by decide) (fun c_5 => ?_) (fun c_5 => ?_)
      · refine lv_ldc (v := (-2000000000)) hx hb hown (hts _ lk_X3_cell_4) dX3_cell_30 ?_
        exact W.iret (v := (-2000000000)) hx hb hr (fun t ht hW => ⟨⟨(-2000000000), st, rfl, ⟨(by simp only [fX3_cell, if_neg c_1, if_pos c_4, if_pos c_5]), rfl⟩, ow_Bi ht hP⟩, hS.F ht⟩) hS.2.2 dX3_cell_32
      · refine lv_aload hx hb dX3_cell_21 (lv_at hl 0 rfl) ?_
        refine lv_iload_n hx hb dX3_cell_23 rfl (lv_at hl 4 rfl) ?_
        refine og_ciP (og_runVN (C := RX2) (T := TX2) (N := 5) (g := 6) (i := 1) (As := [.int x3]) (rest := []) ⟨hx, hb, hml, hown, hts⟩ (kX2_hasItem_1 l D ca ad A st x3) ⟨va_cnB 1 hts gX3_cell_X2_hasItem_n181 rfl rfl rfl (hC.2.2.1 _ ln_X3_cell_5) (hts _ lk_X3_cell_1) (by decide +kernel) ⟨Nat.le_of_ble_eq_true rfl, Nat.le_of_ble_eq_true rfl⟩, (hts _ lk_X3_cell_6), (hts _ lk_X3_cell_7)⟩ hC hP hS (ow_q6_1) rfl rfl rfl hl.1 rfl (Nat.le_of_ble_eq_true rfl) dX3_cell_24 ⟨Nat.zero_le _, Nat.zero_le _⟩) hS (fun H locs hP hS => ?_)
        refine lv_if_ne (tgt := 33) hx hb dX3_cell_27 (by decide) (fun c_6 => ?_) (fun c_6 => ?_)
        · refine lv_aload_n hx hb dX3_cell_33 rfl (lv_at hl 1 rfl) ?_
          refine lv_aload hx hb dX3_cell_34 (lv_at hl 0 rfl) ?_
          refine lv_iload_n hx hb dX3_cell_36 rfl (lv_at hl 4 rfl) ?_
          refine lv_aload hx hb dX3_cell_37 (lv_at hl 0 rfl) ?_
          refine og_getN (C := RX2) (T := TX2) (N := 5) (g := 6) (i := 1) (v := .ref (ad 7 1)) hx hb hts li_X3_cell_X2 hown hC hP (ow_q6_1) rfl rfl 3 (by decide) ln_X3_cell_8 rfl rfl dX3_cell_39 ?_
          refine lv_iload_n hx hb dX3_cell_42 rfl (lv_at hl 4 rfl) ?_
          refine og_aaldI (g := 7) (i := 1) (v := ad 8 (4 * 1 + x3.toNatClampNeg)) hx hb hC hP ow_q7_1 rfl (itm_in_1 c_6) (if_pos (vp_lt (itm_in_1 c_6))) dX3_cell_43 ?_
          refine lv_iload_n hx hb dX3_cell_44 rfl (lv_at hl 3 rfl) ?_
          refine og_iald (g := 8) (i := (4 * 1 + x3.toNatClampNeg)) (j := x2.toNatClampNeg) (v := (st.1 (102 + 4 * (4 * 1 + x3.toNatClampNeg)) x2.toNatClampNeg)) hx hb hC hP (ow_m8 (itm_b8_1 c_6)) rfl (rec_in_1 hz1 c_5) rfl rfl dX3_cell_45 ?_
          refine og_ciP (og_runV (C := RX3) (T := TX3) (N := 14) (g := 0) (i := 0) (As := [.ref (ad 6 1), .int x3, .int (st.1 (102 + 4 * (4 * 1 + x3.toNatClampNeg)) x2.toNatClampNeg)]) (rest := []) ⟨hx, hb, hml, hown, hts⟩ (kX3_fromCell_1 l D ca ad A st x3 (st.1 (102 + 4 * (4 * 1 + x3.toNatClampNeg)) x2.toNatClampNeg)) (cwV 3 hts gX3_cell_X3_fromCell rfl rfl rfl (by decide +kernel) ⟨Nat.le_of_ble_eq_true rfl, Nat.le_of_ble_eq_true rfl⟩) hC hP hS (ow_q0_0) rfl rfl rfl hl.1 rfl (Nat.le_of_ble_eq_true rfl) dX3_cell_46 ⟨Nat.zero_le _, Nat.zero_le _⟩) hS (fun H locs hP hS => ?_)
          exact W.iret (v := (fX3_fromCell_1 st x3 (st.1 (102 + 4 * (4 * 1 + x3.toNatClampNeg)) x2.toNatClampNeg))) hx hb hr (fun t ht hW => ⟨⟨(fX3_fromCell_1 st x3 (st.1 (102 + 4 * (4 * 1 + x3.toNatClampNeg)) x2.toNatClampNeg)), st, rfl, ⟨(by simp only [fX3_cell, if_neg c_1, if_pos c_4, if_neg c_5, if_neg c_6]), rfl⟩, ow_Bi ht hP⟩, hS.F ht⟩) hS.2.2 dX3_cell_49
        · refine lv_ldc (v := (-2000000000)) hx hb hown (hts _ lk_X3_cell_4) dX3_cell_30 ?_
          exact W.iret (v := (-2000000000)) hx hb hr (fun t ht hW => ⟨⟨(-2000000000), st, rfl, ⟨(by simp only [fX3_cell, if_neg c_1, if_pos c_4, if_neg c_5, if_pos c_6]), rfl⟩, ow_Bi ht hP⟩, hS.F ht⟩) hS.2.2 dX3_cell_32
    · refine og_cqN (og_runV (C := RX3) (T := TX3) (N := 14) (g := 0) (i := 0) (As := [.int x1]) (rest := []) ⟨hx, hb, hml, hown, hts⟩ (kX3_tableNumbered l D ca ad A st x1) (cwV 1 hts gX3_cell_X3_tableNumbered rfl rfl rfl (by decide +kernel) ⟨Nat.le_of_ble_eq_true rfl, Nat.le_of_ble_eq_true rfl⟩) hC hP hS (ow_q0_0) rfl rfl rfl hl.1 rfl (Nat.le_of_ble_eq_true rfl) dX3_cell_2 ⟨Nat.zero_le _, Nat.zero_le _⟩) hS (by simp only [fX3_tableNumbered, if_neg c_1, if_neg c_4]) (fun H locs hP hS => ?_)
      refine lv_astoreN (lv' := [(4, .null), (0, .ref (ad 0 0)), (1, .int x1), (2, .int x2), (3, .int x3)]) hx hb dX3_cell_5 hl (by decide) rfl (fun ls hl => ?_)
      refine lv_aloadN hx hb dX3_cell_7 (lv_at hl 0 rfl) ?_
      refine lv_ifnullN (tgt := 30) hx hb dX3_cell_9 (by decide) ?_
      refine lv_ldc (v := (-2000000000)) hx hb hown (hts _ lk_X3_cell_4) dX3_cell_30 ?_
      exact W.iret (v := (-2000000000)) hx hb hr (fun t ht hW => ⟨⟨(-2000000000), st, rfl, ⟨(by simp only [fX3_cell, if_neg c_1, if_neg c_4]), rfl⟩, ow_Bi ht hP⟩, hS.F ht⟩) hS.2.2 dX3_cell_32

theorem ln_X3_back_0 : (.methodLinkNest RX3 178 yX2_hasRecord "RecordLabels" : Cond) ∈ ow_nest := by decide +kernel
theorem lk_X3_back_1 : (.initialized RX2 : Cond) ∈ wsX3_back := by decide +kernel
theorem lk_X3_back_2 : (.instanceMethod yX2_hasRecord : Cond) ∈ wsX3_back := by decide +kernel
theorem lk_X3_back_3 : (.selects RX2 yX2_hasRecord yX2_hasRecord : Cond) ∈ wsX3_back := by decide +kernel
def fX3_back (st : ow_St) (x1 x2 : Int32) : Int32 × ow_St := (if x1 = 0 then (if (fX2_hasRecord_0 st x2) = 0 then ((-1), st) else (let st3 := (fX3_draftOf_0 st x2); (let st4 := (fX3_putTogether_0 st3).2; ((fX3_putTogether_0 st3).1, st4)))) else (if x1 = 1 then (if (fX2_hasRecord_1 st x2) = 0 then ((-1), st) else (let st7 := (fX3_draftOf_1 st x2); (let st8 := (fX3_putTogether_1 st7).2; ((fX3_putTogether_1 st7).1, st8)))) else ((-1), st)))
set_option maxHeartbeats 4000000 in
set_option maxRecDepth 100000 in
theorem kX3_back (l : Launch) (D : va_G) (ca : Nat → ClassId) (ad : ow_Ad) (A : Nat → Prop) (st : ow_St) (x1 : Int32) (x2 : Int32) (hz0 : iv_sz st 0) (hz1 : iv_sz st 1) : Met l yX3_back wsX3_back ({ frames := 4, cells := 0, slots := 0, locals := 90 }) (va_Pc [.ref (ad 0 0), .int x1, .int x2] (ow_W D ca ad A st)) (va_Qi (fun r st' => (r, st') = (fX3_back st x1 x2)) (ow_B D ca ad) A) 0 0 A := by
  refine Met.ofW (cc := cX3_back) (maxL := 4) (ret := (some .int)) (by decide) rfl ?_
  intro p e s m args below meth c s₁ B hml hv
  obtain ⟨rfl, hP, hC⟩ := hv
  have hx := B.exec
  have hb := B.bytes
  have hr := B.returns
  have hts := atoms_spec (ws := wsX3_back) B.pre
  have hown : s.vm.findClass RX3 = some m.cls := findClass_of_methodNamed B.named
  have hlocks := B.notSynchronized
  have hS : va_S A s.heap s.heap [] := va_S.rf
  have hl := lv_entry ([.ref (ad 0 0), .int x1, .int x2]) (n := 4) (Nat.le_of_ble_eq_true rfl)
  rw [lg_entry_eq]
  generalize (lg_sl ([.ref (ad 0 0), .int x1, .int x2]) ++ List.replicate (4 - (lg_sl ([.ref (ad 0 0), .int x1, .int x2])).length) Slot.unset).toArray = ls at hl ⊢
  have hl : lv_has ls 4 [(0, .ref (ad 0 0)), (1, .int x1), (2, .int x2)] := hl
  refine lv_aload_n hx hb dX3_back_0 rfl (lv_at hl 0 rfl) ?_
  refine lv_iload_n hx hb dX3_back_1 rfl (lv_at hl 1 rfl) ?_
  by_cases c_1 : x1 = 0
  · refine og_cqS (q := ad 6 0) (og_runV (C := RX3) (T := TX3) (N := 14) (g := 0) (i := 0) (As := [.int x1]) (rest := []) ⟨hx, hb, hml, hown, hts⟩ (kX3_tableNumbered l D ca ad A st x1) (cwV 1 hts gX3_back_X3_tableNumbered rfl rfl rfl (by decide +kernel) ⟨Nat.le_of_ble_eq_true rfl, Nat.le_of_ble_eq_true rfl⟩) hC hP hS (ow_q0_0) rfl rfl rfl hl.1 rfl (Nat.le_of_ble_eq_true rfl) dX3_back_2 ⟨Nat.zero_le _, Nat.zero_le _⟩) hS (by simp only [fX3_tableNumbered, if_pos c_1]) (fun H locs hP hS => ?_)
    refine lv_astore_n (lv' := [(3, .ref (ad 6 0)), (0, .ref (ad 0 0)), (1, .int x1), (2, .int x2)]) hx hb dX3_back_5 rfl hl (by decide) rfl (fun ls hl => ?_)
    refine lv_aload_n hx hb dX3_back_6 rfl (lv_at hl 0 rfl) ?_
    refine lv_ifnull hx hb dX3_back_7 ?_
    refine lv_aload_n hx hb dX3_back_10 rfl (lv_at hl 0 rfl) ?_
    refine lv_iload_n hx hb dX3_back_11 rfl (lv_at hl 3 rfl) ?_
    refine og_ciP (og_runVN (C := RX2) (T := TX2) (N := 5) (g := 6) (i := 0) (As := [.int x2]) (rest := []) ⟨hx, hb, hml, hown, hts⟩ (kX2_hasRecord_0 l D ca ad A st x2) ⟨va_cnB 1 hts gX3_back_X2_hasRecord_n178 rfl rfl rfl (hC.2.2.1 _ ln_X3_back_0) (hts _ lk_X3_back_1) (by decide +kernel) ⟨Nat.le_of_ble_eq_true rfl, Nat.le_of_ble_eq_true rfl⟩, (hts _ lk_X3_back_2), (hts _ lk_X3_back_3)⟩ hC hP hS (ow_q6_0) rfl rfl rfl hl.1 rfl (Nat.le_of_ble_eq_true rfl) dX3_back_12 ⟨Nat.zero_le _, Nat.zero_le _⟩) hS (fun H locs hP hS => ?_)
    refine lv_if_ne (tgt := 20) hx hb dX3_back_15 (by decide) (fun c_2 => ?_) (fun c_2 => ?_)
    · refine lv_aload_n hx hb dX3_back_20 rfl (lv_at hl 1 rfl) ?_
      refine lv_aload_n hx hb dX3_back_21 rfl (lv_at hl 0 rfl) ?_
      refine lv_iload_n hx hb dX3_back_22 rfl (lv_at hl 3 rfl) ?_
      refine og_cvW (og_runV (C := RX3) (T := TX3) (N := 14) (g := 0) (i := 0) (As := [.ref (ad 6 0), .int x2]) (rest := []) ⟨hx, hb, hml, hown, hts⟩ (kX3_draftOf_0 l D ca ad A st x2 hz0) (cwV 2 hts gX3_back_X3_draftOf rfl rfl rfl (by decide +kernel) ⟨Nat.le_of_ble_eq_true rfl, Nat.le_of_ble_eq_true rfl⟩) hC hP hS (ow_q0_0) rfl rfl rfl hl.1 rfl (Nat.le_of_ble_eq_true rfl) dX3_back_23 ⟨Nat.zero_le _, Nat.zero_le _⟩) hS (fun H locs hP hS => ?_)
      obtain ⟨st3, e3⟩ : ∃ z, z = (fX3_draftOf_0 st x2) := ⟨_, rfl⟩
      rw [← e3] at hP
      refine lv_aload_n hx hb dX3_back_26 rfl (lv_at hl 1 rfl) ?_
      refine lv_aload_n hx hb dX3_back_27 rfl (lv_at hl 0 rfl) ?_
      refine og_ciW (og_runV (C := RX3) (T := TX3) (N := 14) (g := 0) (i := 0) (As := [.ref (ad 6 0)]) (rest := []) ⟨hx, hb, hml, hown, hts⟩ (kX3_putTogether_0 l D ca ad A st3) (cwV 1 hts gX3_back_X3_putTogether rfl rfl rfl (by decide +kernel) ⟨Nat.le_of_ble_eq_true rfl, Nat.le_of_ble_eq_true rfl⟩) hC hP hS (ow_q0_0) rfl rfl rfl hl.1 rfl (Nat.le_of_ble_eq_true rfl) dX3_back_28 ⟨Nat.zero_le _, Nat.zero_le _⟩) hS (fun H locs hP hS => ?_)
      obtain ⟨st4, e4⟩ : ∃ z, z = (fX3_putTogether_0 st3).2 := ⟨_, rfl⟩
      rw [← e4] at hP
      exact W.iret (v := (fX3_putTogether_0 st3).1) hx hb hr (fun t ht hW => ⟨⟨(fX3_putTogether_0 st3).1, st4, rfl, (by subst e4; subst e3; simp only [fX3_back, if_pos c_1, if_neg c_2]), ow_Bi ht hP⟩, hS.F ht⟩) hS.2.2 dX3_back_31
    · refine lv_iconst (v := (-1)) hx hb dX3_back_18 (by decide) ?_
      exact W.iret (v := (-1)) hx hb hr (fun t ht hW => ⟨⟨(-1), st, rfl, (by simp only [fX3_back, if_pos c_1, if_pos c_2]), ow_Bi ht hP⟩, hS.F ht⟩) hS.2.2 dX3_back_19
  · by_cases c_5 : x1 = 1
    · refine og_cqS (q := ad 6 1) (og_runV (C := RX3) (T := TX3) (N := 14) (g := 0) (i := 0) (As := [.int x1]) (rest := []) ⟨hx, hb, hml, hown, hts⟩ (kX3_tableNumbered l D ca ad A st x1) (cwV 1 hts gX3_back_X3_tableNumbered rfl rfl rfl (by decide +kernel) ⟨Nat.le_of_ble_eq_true rfl, Nat.le_of_ble_eq_true rfl⟩) hC hP hS (ow_q0_0) rfl rfl rfl hl.1 rfl (Nat.le_of_ble_eq_true rfl) dX3_back_2 ⟨Nat.zero_le _, Nat.zero_le _⟩) hS (by simp only [fX3_tableNumbered, if_neg c_1, if_pos c_5]) (fun H locs hP hS => ?_)
      refine lv_astore_n (lv' := [(3, .ref (ad 6 1)), (0, .ref (ad 0 0)), (1, .int x1), (2, .int x2)]) hx hb dX3_back_5 rfl hl (by decide) rfl (fun ls hl => ?_)
      refine lv_aload_n hx hb dX3_back_6 rfl (lv_at hl 0 rfl) ?_
      refine lv_ifnull hx hb dX3_back_7 ?_
      refine lv_aload_n hx hb dX3_back_10 rfl (lv_at hl 0 rfl) ?_
      refine lv_iload_n hx hb dX3_back_11 rfl (lv_at hl 3 rfl) ?_
      refine og_ciP (og_runVN (C := RX2) (T := TX2) (N := 5) (g := 6) (i := 1) (As := [.int x2]) (rest := []) ⟨hx, hb, hml, hown, hts⟩ (kX2_hasRecord_1 l D ca ad A st x2) ⟨va_cnB 1 hts gX3_back_X2_hasRecord_n178 rfl rfl rfl (hC.2.2.1 _ ln_X3_back_0) (hts _ lk_X3_back_1) (by decide +kernel) ⟨Nat.le_of_ble_eq_true rfl, Nat.le_of_ble_eq_true rfl⟩, (hts _ lk_X3_back_2), (hts _ lk_X3_back_3)⟩ hC hP hS (ow_q6_1) rfl rfl rfl hl.1 rfl (Nat.le_of_ble_eq_true rfl) dX3_back_12 ⟨Nat.zero_le _, Nat.zero_le _⟩) hS (fun H locs hP hS => ?_)
      refine lv_if_ne (tgt := 20) hx hb dX3_back_15 (by decide) (fun c_6 => ?_) (fun c_6 => ?_)
      · refine lv_aload_n hx hb dX3_back_20 rfl (lv_at hl 1 rfl) ?_
        refine lv_aload_n hx hb dX3_back_21 rfl (lv_at hl 0 rfl) ?_
        refine lv_iload_n hx hb dX3_back_22 rfl (lv_at hl 3 rfl) ?_
        refine og_cvW (og_runV (C := RX3) (T := TX3) (N := 14) (g := 0) (i := 0) (As := [.ref (ad 6 1), .int x2]) (rest := []) ⟨hx, hb, hml, hown, hts⟩ (kX3_draftOf_1 l D ca ad A st x2 hz1) (cwV 2 hts gX3_back_X3_draftOf rfl rfl rfl (by decide +kernel) ⟨Nat.le_of_ble_eq_true rfl, Nat.le_of_ble_eq_true rfl⟩) hC hP hS (ow_q0_0) rfl rfl rfl hl.1 rfl (Nat.le_of_ble_eq_true rfl) dX3_back_23 ⟨Nat.zero_le _, Nat.zero_le _⟩) hS (fun H locs hP hS => ?_)
        obtain ⟨st7, e7⟩ : ∃ z, z = (fX3_draftOf_1 st x2) := ⟨_, rfl⟩
        rw [← e7] at hP
        refine lv_aload_n hx hb dX3_back_26 rfl (lv_at hl 1 rfl) ?_
        refine lv_aload_n hx hb dX3_back_27 rfl (lv_at hl 0 rfl) ?_
        refine og_ciW (og_runV (C := RX3) (T := TX3) (N := 14) (g := 0) (i := 0) (As := [.ref (ad 6 1)]) (rest := []) ⟨hx, hb, hml, hown, hts⟩ (kX3_putTogether_1 l D ca ad A st7) (cwV 1 hts gX3_back_X3_putTogether rfl rfl rfl (by decide +kernel) ⟨Nat.le_of_ble_eq_true rfl, Nat.le_of_ble_eq_true rfl⟩) hC hP hS (ow_q0_0) rfl rfl rfl hl.1 rfl (Nat.le_of_ble_eq_true rfl) dX3_back_28 ⟨Nat.zero_le _, Nat.zero_le _⟩) hS (fun H locs hP hS => ?_)
        obtain ⟨st8, e8⟩ : ∃ z, z = (fX3_putTogether_1 st7).2 := ⟨_, rfl⟩
        rw [← e8] at hP
        exact W.iret (v := (fX3_putTogether_1 st7).1) hx hb hr (fun t ht hW => ⟨⟨(fX3_putTogether_1 st7).1, st8, rfl, (by subst e8; subst e7; simp only [fX3_back, if_neg c_1, if_pos c_5, if_neg c_6]), ow_Bi ht hP⟩, hS.F ht⟩) hS.2.2 dX3_back_31
      · refine lv_iconst (v := (-1)) hx hb dX3_back_18 (by decide) ?_
        exact W.iret (v := (-1)) hx hb hr (fun t ht hW => ⟨⟨(-1), st, rfl, (by simp only [fX3_back, if_neg c_1, if_pos c_5, if_pos c_6]), ow_Bi ht hP⟩, hS.F ht⟩) hS.2.2 dX3_back_19
    · refine og_cqN (og_runV (C := RX3) (T := TX3) (N := 14) (g := 0) (i := 0) (As := [.int x1]) (rest := []) ⟨hx, hb, hml, hown, hts⟩ (kX3_tableNumbered l D ca ad A st x1) (cwV 1 hts gX3_back_X3_tableNumbered rfl rfl rfl (by decide +kernel) ⟨Nat.le_of_ble_eq_true rfl, Nat.le_of_ble_eq_true rfl⟩) hC hP hS (ow_q0_0) rfl rfl rfl hl.1 rfl (Nat.le_of_ble_eq_true rfl) dX3_back_2 ⟨Nat.zero_le _, Nat.zero_le _⟩) hS (by simp only [fX3_tableNumbered, if_neg c_1, if_neg c_5]) (fun H locs hP hS => ?_)
      refine lv_astore_nN (lv' := [(3, .null), (0, .ref (ad 0 0)), (1, .int x1), (2, .int x2)]) hx hb dX3_back_5 rfl hl (by decide) rfl (fun ls hl => ?_)
      refine lv_aload_nN hx hb dX3_back_6 rfl (lv_at hl 0 rfl) ?_
      refine lv_ifnullN (tgt := 18) hx hb dX3_back_7 (by decide) ?_
      refine lv_iconst (v := (-1)) hx hb dX3_back_18 (by decide) ?_
      exact W.iret (v := (-1)) hx hb hr (fun t ht hW => ⟨⟨(-1), st, rfl, (by simp only [fX3_back, if_neg c_1, if_neg c_5]), ow_Bi ht hP⟩, hS.F ht⟩) hS.2.2 dX3_back_19

theorem li_X3_part_n_X3 : ∀ w ∈ u_ws RX3 TX3 14, w ∈ wsX3_part := by decide +kernel
theorem lk_X3_part_n_1 : (.fieldLink RX3 70 "RecordLabels" "partsTable" "LRecordLabels$Table;" : Cond) ∈ wsX3_part := by decide +kernel
def fX3_part_n (st : ow_St) (x1 : Int32) : Int32 := (-4)
set_option maxHeartbeats 4000000 in
set_option maxRecDepth 100000 in
theorem kX3_part_n (l : Launch) (D : va_G) (ca : Nat → ClassId) (ad : ow_Ad) (A : Nat → Prop) (st : ow_St) (x1 : Int32) (hp : st.2.2 0 = 0) : Met l yX3_part wsX3_part ({ frames := 0, cells := 0, slots := 0, locals := 0 }) (va_Pc [.ref (ad 0 0), .int x1] (ow_W D ca ad A st)) (va_Qi (fun r st' => r = (fX3_part_n st x1) ∧ st' = st) (ow_B D ca ad) A) 0 0 A := by
  refine Met.ofW (cc := cX3_part) (maxL := 2) (ret := (some .int)) (by decide) rfl ?_
  intro p e s m args below meth c s₁ B hml hv
  obtain ⟨rfl, hP, hC⟩ := hv
  have hx := B.exec
  have hb := B.bytes
  have hr := B.returns
  have hts := atoms_spec (ws := wsX3_part) B.pre
  have hown : s.vm.findClass RX3 = some m.cls := findClass_of_methodNamed B.named
  have hlocks := B.notSynchronized
  have hS : va_S A s.heap s.heap [] := va_S.rf
  have hl := lv_entry ([.ref (ad 0 0), .int x1]) (n := 2) (Nat.le_of_ble_eq_true rfl)
  rw [lg_entry_eq]
  generalize (lg_sl ([.ref (ad 0 0), .int x1]) ++ List.replicate (2 - (lg_sl ([.ref (ad 0 0), .int x1])).length) Slot.unset).toArray = ls at hl ⊢
  have hl : lv_has ls 2 [(0, .ref (ad 0 0)), (1, .int x1)] := hl
  refine lv_aload_n hx hb dX3_part_0 rfl (lv_at hl 0 rfl) ?_
  refine og_get (C := RX3) (T := TX3) (N := 14) (g := 0) (i := 0) (v := .null) hx hb hts li_X3_part_n_X3 hown hC hP (ow_q0_0) rfl rfl 11 (by decide) (hts _ lk_X3_part_n_1) rfl (by show some (va_rf (ow_pt ad (st.2.2 0))) = _; rw [hp]; rfl) dX3_part_1 ?_
  refine lv_ifnullN (tgt := 18) hx hb dX3_part_4 (by decide) ?_
  refine lv_bipush (v := (-4)) hx hb dX3_part_18 (by decide) ?_
  exact W.iret (v := (-4)) hx hb hr (fun t ht hW => ⟨⟨(-4), st, rfl, ⟨(by simp only [fX3_part_n]), rfl⟩, ow_Bi ht hP⟩, hS.F ht⟩) hS.2.2 dX3_part_20

theorem li_X3_part_0_X3 : ∀ w ∈ u_ws RX3 TX3 14, w ∈ wsX3_part := by decide +kernel
theorem lk_X3_part_0_1 : (.fieldLink RX3 70 "RecordLabels" "partsTable" "LRecordLabels$Table;" : Cond) ∈ wsX3_part := by decide +kernel
theorem ln_X3_part_0_2 : (.methodLinkNest RX3 181 yX2_hasItem "RecordLabels" : Cond) ∈ ow_nest := by decide +kernel
theorem lk_X3_part_0_3 : (.initialized RX2 : Cond) ∈ wsX3_part := by decide +kernel
theorem lk_X3_part_0_4 : (.instanceMethod yX2_hasItem : Cond) ∈ wsX3_part := by decide +kernel
theorem lk_X3_part_0_5 : (.selects RX2 yX2_hasItem yX2_hasItem : Cond) ∈ wsX3_part := by decide +kernel
theorem lk_X3_part_0_6 : (.fieldLink RX3 67 "RecordLabels" "parts" "[I" : Cond) ∈ wsX3_part := by decide +kernel
def fX3_part_0 (st : ow_St) (x1 : Int32) : Int32 := (if (fX2_hasItem_0 st x1) = 0 then (-4) else (fX3_fromCell_0 st x1 (st.1 107 x1.toNatClampNeg)))
set_option maxHeartbeats 4000000 in
set_option maxRecDepth 100000 in
theorem kX3_part_0 (l : Launch) (D : va_G) (ca : Nat → ClassId) (ad : ow_Ad) (A : Nat → Prop) (st : ow_St) (x1 : Int32) (hp : st.2.2 0 = 1) : Met l yX3_part wsX3_part ({ frames := 3, cells := 0, slots := 0, locals := 66 }) (va_Pc [.ref (ad 0 0), .int x1] (ow_W D ca ad A st)) (va_Qi (fun r st' => r = (fX3_part_0 st x1) ∧ st' = st) (ow_B D ca ad) A) 0 0 A := by
  refine Met.ofW (cc := cX3_part) (maxL := 2) (ret := (some .int)) (by decide) rfl ?_
  intro p e s m args below meth c s₁ B hml hv
  obtain ⟨rfl, hP, hC⟩ := hv
  have hx := B.exec
  have hb := B.bytes
  have hr := B.returns
  have hts := atoms_spec (ws := wsX3_part) B.pre
  have hown : s.vm.findClass RX3 = some m.cls := findClass_of_methodNamed B.named
  have hlocks := B.notSynchronized
  have hS : va_S A s.heap s.heap [] := va_S.rf
  have hl := lv_entry ([.ref (ad 0 0), .int x1]) (n := 2) (Nat.le_of_ble_eq_true rfl)
  rw [lg_entry_eq]
  generalize (lg_sl ([.ref (ad 0 0), .int x1]) ++ List.replicate (2 - (lg_sl ([.ref (ad 0 0), .int x1])).length) Slot.unset).toArray = ls at hl ⊢
  have hl : lv_has ls 2 [(0, .ref (ad 0 0)), (1, .int x1)] := hl
  refine lv_aload_n hx hb dX3_part_0 rfl (lv_at hl 0 rfl) ?_
  refine og_get (C := RX3) (T := TX3) (N := 14) (g := 0) (i := 0) (v := .ref (ad 6 0)) hx hb hts li_X3_part_0_X3 hown hC hP (ow_q0_0) rfl rfl 11 (by decide) (hts _ lk_X3_part_0_1) rfl (by show some (va_rf (ow_pt ad (st.2.2 0))) = _; rw [hp]; rfl) dX3_part_1 ?_
  refine lv_ifnull hx hb dX3_part_4 ?_
  refine lv_aload_n hx hb dX3_part_7 rfl (lv_at hl 0 rfl) ?_
  refine og_get (C := RX3) (T := TX3) (N := 14) (g := 0) (i := 0) (v := .ref (ad 6 0)) hx hb hts li_X3_part_0_X3 hown hC hP (ow_q0_0) rfl rfl 11 (by decide) (hts _ lk_X3_part_0_1) rfl (by show some (va_rf (ow_pt ad (st.2.2 0))) = _; rw [hp]; rfl) dX3_part_8 ?_
  refine lv_iload_n hx hb dX3_part_11 rfl (lv_at hl 1 rfl) ?_
  refine og_ciP (og_runVN (C := RX2) (T := TX2) (N := 5) (g := 6) (i := 0) (As := [.int x1]) (rest := []) ⟨hx, hb, hml, hown, hts⟩ (kX2_hasItem_0 l D ca ad A st x1) ⟨va_cnB 1 hts gX3_part_X2_hasItem_n181 rfl rfl rfl (hC.2.2.1 _ ln_X3_part_0_2) (hts _ lk_X3_part_0_3) (by decide +kernel) ⟨Nat.le_of_ble_eq_true rfl, Nat.le_of_ble_eq_true rfl⟩, (hts _ lk_X3_part_0_4), (hts _ lk_X3_part_0_5)⟩ hC hP hS (ow_q6_0) rfl rfl rfl hl.1 rfl (Nat.le_of_ble_eq_true rfl) dX3_part_12 ⟨Nat.zero_le _, Nat.zero_le _⟩) hS (fun H locs hP hS => ?_)
  refine lv_if_ne (tgt := 21) hx hb dX3_part_15 (by decide) (fun c_1 => ?_) (fun c_1 => ?_)
  · refine lv_aload_n hx hb dX3_part_21 rfl (lv_at hl 0 rfl) ?_
    refine lv_aload_n hx hb dX3_part_22 rfl (lv_at hl 0 rfl) ?_
    refine og_get (C := RX3) (T := TX3) (N := 14) (g := 0) (i := 0) (v := .ref (ad 6 0)) hx hb hts li_X3_part_0_X3 hown hC hP (ow_q0_0) rfl rfl 11 (by decide) (hts _ lk_X3_part_0_1) rfl (by show some (va_rf (ow_pt ad (st.2.2 0))) = _; rw [hp]; rfl) dX3_part_23 ?_
    refine lv_iload_n hx hb dX3_part_26 rfl (lv_at hl 1 rfl) ?_
    refine lv_aload_n hx hb dX3_part_27 rfl (lv_at hl 0 rfl) ?_
    refine og_get (C := RX3) (T := TX3) (N := 14) (g := 0) (i := 0) (v := .ref (ad 9 1)) hx hb hts li_X3_part_0_X3 hown hC hP (ow_q0_0) rfl rfl 10 (by decide) (hts _ lk_X3_part_0_6) rfl rfl dX3_part_28 ?_
    refine lv_iload_n hx hb dX3_part_31 rfl (lv_at hl 1 rfl) ?_
    refine og_iald (g := 9) (i := 1) (j := x1.toNatClampNeg) (v := (st.1 107 x1.toNatClampNeg)) hx hb hC hP (ow_q9_1) rfl (itm_in_0 c_1) rfl rfl dX3_part_32 ?_
    refine og_ciP (og_runV (C := RX3) (T := TX3) (N := 14) (g := 0) (i := 0) (As := [.ref (ad 6 0), .int x1, .int (st.1 107 x1.toNatClampNeg)]) (rest := []) ⟨hx, hb, hml, hown, hts⟩ (kX3_fromCell_0 l D ca ad A st x1 (st.1 107 x1.toNatClampNeg)) (cwV 3 hts gX3_part_X3_fromCell rfl rfl rfl (by decide +kernel) ⟨Nat.le_of_ble_eq_true rfl, Nat.le_of_ble_eq_true rfl⟩) hC hP hS (ow_q0_0) rfl rfl rfl hl.1 rfl (Nat.le_of_ble_eq_true rfl) dX3_part_33 ⟨Nat.zero_le _, Nat.zero_le _⟩) hS (fun H locs hP hS => ?_)
    exact W.iret (v := (fX3_fromCell_0 st x1 (st.1 107 x1.toNatClampNeg))) hx hb hr (fun t ht hW => ⟨⟨(fX3_fromCell_0 st x1 (st.1 107 x1.toNatClampNeg)), st, rfl, ⟨(by simp only [fX3_part_0, if_neg c_1]), rfl⟩, ow_Bi ht hP⟩, hS.F ht⟩) hS.2.2 dX3_part_36
  · refine lv_bipush (v := (-4)) hx hb dX3_part_18 (by decide) ?_
    exact W.iret (v := (-4)) hx hb hr (fun t ht hW => ⟨⟨(-4), st, rfl, ⟨(by simp only [fX3_part_0, if_pos c_1]), rfl⟩, ow_Bi ht hP⟩, hS.F ht⟩) hS.2.2 dX3_part_20

theorem li_X3_part_1_X3 : ∀ w ∈ u_ws RX3 TX3 14, w ∈ wsX3_part := by decide +kernel
theorem lk_X3_part_1_1 : (.fieldLink RX3 70 "RecordLabels" "partsTable" "LRecordLabels$Table;" : Cond) ∈ wsX3_part := by decide +kernel
theorem ln_X3_part_1_2 : (.methodLinkNest RX3 181 yX2_hasItem "RecordLabels" : Cond) ∈ ow_nest := by decide +kernel
theorem lk_X3_part_1_3 : (.initialized RX2 : Cond) ∈ wsX3_part := by decide +kernel
theorem lk_X3_part_1_4 : (.instanceMethod yX2_hasItem : Cond) ∈ wsX3_part := by decide +kernel
theorem lk_X3_part_1_5 : (.selects RX2 yX2_hasItem yX2_hasItem : Cond) ∈ wsX3_part := by decide +kernel
theorem lk_X3_part_1_6 : (.fieldLink RX3 67 "RecordLabels" "parts" "[I" : Cond) ∈ wsX3_part := by decide +kernel
def fX3_part_1 (st : ow_St) (x1 : Int32) : Int32 := (if (fX2_hasItem_1 st x1) = 0 then (-4) else (fX3_fromCell_1 st x1 (st.1 107 x1.toNatClampNeg)))
set_option maxHeartbeats 4000000 in
set_option maxRecDepth 100000 in
theorem kX3_part_1 (l : Launch) (D : va_G) (ca : Nat → ClassId) (ad : ow_Ad) (A : Nat → Prop) (st : ow_St) (x1 : Int32) (hp : st.2.2 0 = 2) : Met l yX3_part wsX3_part ({ frames := 3, cells := 0, slots := 0, locals := 66 }) (va_Pc [.ref (ad 0 0), .int x1] (ow_W D ca ad A st)) (va_Qi (fun r st' => r = (fX3_part_1 st x1) ∧ st' = st) (ow_B D ca ad) A) 0 0 A := by
  refine Met.ofW (cc := cX3_part) (maxL := 2) (ret := (some .int)) (by decide) rfl ?_
  intro p e s m args below meth c s₁ B hml hv
  obtain ⟨rfl, hP, hC⟩ := hv
  have hx := B.exec
  have hb := B.bytes
  have hr := B.returns
  have hts := atoms_spec (ws := wsX3_part) B.pre
  have hown : s.vm.findClass RX3 = some m.cls := findClass_of_methodNamed B.named
  have hlocks := B.notSynchronized
  have hS : va_S A s.heap s.heap [] := va_S.rf
  have hl := lv_entry ([.ref (ad 0 0), .int x1]) (n := 2) (Nat.le_of_ble_eq_true rfl)
  rw [lg_entry_eq]
  generalize (lg_sl ([.ref (ad 0 0), .int x1]) ++ List.replicate (2 - (lg_sl ([.ref (ad 0 0), .int x1])).length) Slot.unset).toArray = ls at hl ⊢
  have hl : lv_has ls 2 [(0, .ref (ad 0 0)), (1, .int x1)] := hl
  refine lv_aload_n hx hb dX3_part_0 rfl (lv_at hl 0 rfl) ?_
  refine og_get (C := RX3) (T := TX3) (N := 14) (g := 0) (i := 0) (v := .ref (ad 6 1)) hx hb hts li_X3_part_1_X3 hown hC hP (ow_q0_0) rfl rfl 11 (by decide) (hts _ lk_X3_part_1_1) rfl (by show some (va_rf (ow_pt ad (st.2.2 0))) = _; rw [hp]; rfl) dX3_part_1 ?_
  refine lv_ifnull hx hb dX3_part_4 ?_
  refine lv_aload_n hx hb dX3_part_7 rfl (lv_at hl 0 rfl) ?_
  refine og_get (C := RX3) (T := TX3) (N := 14) (g := 0) (i := 0) (v := .ref (ad 6 1)) hx hb hts li_X3_part_1_X3 hown hC hP (ow_q0_0) rfl rfl 11 (by decide) (hts _ lk_X3_part_1_1) rfl (by show some (va_rf (ow_pt ad (st.2.2 0))) = _; rw [hp]; rfl) dX3_part_8 ?_
  refine lv_iload_n hx hb dX3_part_11 rfl (lv_at hl 1 rfl) ?_
  refine og_ciP (og_runVN (C := RX2) (T := TX2) (N := 5) (g := 6) (i := 1) (As := [.int x1]) (rest := []) ⟨hx, hb, hml, hown, hts⟩ (kX2_hasItem_1 l D ca ad A st x1) ⟨va_cnB 1 hts gX3_part_X2_hasItem_n181 rfl rfl rfl (hC.2.2.1 _ ln_X3_part_1_2) (hts _ lk_X3_part_1_3) (by decide +kernel) ⟨Nat.le_of_ble_eq_true rfl, Nat.le_of_ble_eq_true rfl⟩, (hts _ lk_X3_part_1_4), (hts _ lk_X3_part_1_5)⟩ hC hP hS (ow_q6_1) rfl rfl rfl hl.1 rfl (Nat.le_of_ble_eq_true rfl) dX3_part_12 ⟨Nat.zero_le _, Nat.zero_le _⟩) hS (fun H locs hP hS => ?_)
  refine lv_if_ne (tgt := 21) hx hb dX3_part_15 (by decide) (fun c_1 => ?_) (fun c_1 => ?_)
  · refine lv_aload_n hx hb dX3_part_21 rfl (lv_at hl 0 rfl) ?_
    refine lv_aload_n hx hb dX3_part_22 rfl (lv_at hl 0 rfl) ?_
    refine og_get (C := RX3) (T := TX3) (N := 14) (g := 0) (i := 0) (v := .ref (ad 6 1)) hx hb hts li_X3_part_1_X3 hown hC hP (ow_q0_0) rfl rfl 11 (by decide) (hts _ lk_X3_part_1_1) rfl (by show some (va_rf (ow_pt ad (st.2.2 0))) = _; rw [hp]; rfl) dX3_part_23 ?_
    refine lv_iload_n hx hb dX3_part_26 rfl (lv_at hl 1 rfl) ?_
    refine lv_aload_n hx hb dX3_part_27 rfl (lv_at hl 0 rfl) ?_
    refine og_get (C := RX3) (T := TX3) (N := 14) (g := 0) (i := 0) (v := .ref (ad 9 1)) hx hb hts li_X3_part_1_X3 hown hC hP (ow_q0_0) rfl rfl 10 (by decide) (hts _ lk_X3_part_1_6) rfl rfl dX3_part_28 ?_
    refine lv_iload_n hx hb dX3_part_31 rfl (lv_at hl 1 rfl) ?_
    refine og_iald (g := 9) (i := 1) (j := x1.toNatClampNeg) (v := (st.1 107 x1.toNatClampNeg)) hx hb hC hP (ow_q9_1) rfl (itm_in_1 c_1) rfl rfl dX3_part_32 ?_
    refine og_ciP (og_runV (C := RX3) (T := TX3) (N := 14) (g := 0) (i := 0) (As := [.ref (ad 6 1), .int x1, .int (st.1 107 x1.toNatClampNeg)]) (rest := []) ⟨hx, hb, hml, hown, hts⟩ (kX3_fromCell_1 l D ca ad A st x1 (st.1 107 x1.toNatClampNeg)) (cwV 3 hts gX3_part_X3_fromCell rfl rfl rfl (by decide +kernel) ⟨Nat.le_of_ble_eq_true rfl, Nat.le_of_ble_eq_true rfl⟩) hC hP hS (ow_q0_0) rfl rfl rfl hl.1 rfl (Nat.le_of_ble_eq_true rfl) dX3_part_33 ⟨Nat.zero_le _, Nat.zero_le _⟩) hS (fun H locs hP hS => ?_)
    exact W.iret (v := (fX3_fromCell_1 st x1 (st.1 107 x1.toNatClampNeg))) hx hb hr (fun t ht hW => ⟨⟨(fX3_fromCell_1 st x1 (st.1 107 x1.toNatClampNeg)), st, rfl, ⟨(by simp only [fX3_part_1, if_neg c_1]), rfl⟩, ow_Bi ht hP⟩, hS.F ht⟩) hS.2.2 dX3_part_36
  · refine lv_bipush (v := (-4)) hx hb dX3_part_18 (by decide) ?_
    exact W.iret (v := (-4)) hx hb hr (fun t ht hW => ⟨⟨(-4), st, rfl, ⟨(by simp only [fX3_part_1, if_pos c_1]), rfl⟩, ow_Bi ht hP⟩, hS.F ht⟩) hS.2.2 dX3_part_20

theorem li_X3_found_X3 : ∀ w ∈ u_ws RX3 TX3 14, w ∈ wsX3_found := by decide +kernel
theorem lk_X3_found_1 : (.fieldLink RX3 76 "RecordLabels" "foundSize" "I" : Cond) ∈ wsX3_found := by decide +kernel
theorem lk_X3_found_2 : (.fieldLink RX3 73 "RecordLabels" "foundRecords" "[I" : Cond) ∈ wsX3_found := by decide +kernel
def fX3_found (st : ow_St) (x1 : Int32) : Int32 := (if x1 < 0 then (-4) else (if (st.1 0 2) ≤ x1 then (-4) else (st.1 111 x1.toNatClampNeg)))
set_option maxHeartbeats 4000000 in
set_option maxRecDepth 100000 in
theorem kX3_found (l : Launch) (D : va_G) (ca : Nat → ClassId) (ad : ow_Ad) (A : Nat → Prop) (st : ow_St) (x1 : Int32) (hf : iv_fs st) : Met l yX3_found wsX3_found ({ frames := 0, cells := 0, slots := 0, locals := 0 }) (va_Pc [.ref (ad 0 0), .int x1] (ow_W D ca ad A st)) (va_Qi (fun r st' => r = (fX3_found st x1) ∧ st' = st) (ow_B D ca ad) A) 0 0 A := by
  refine Met.ofW (cc := cX3_found) (maxL := 2) (ret := (some .int)) (by decide) rfl ?_
  intro p e s m args below meth c s₁ B hml hv
  obtain ⟨rfl, hP, hC⟩ := hv
  have hx := B.exec
  have hb := B.bytes
  have hr := B.returns
  have hts := atoms_spec (ws := wsX3_found) B.pre
  have hown : s.vm.findClass RX3 = some m.cls := findClass_of_methodNamed B.named
  have hlocks := B.notSynchronized
  have hS : va_S A s.heap s.heap [] := va_S.rf
  have hl := lv_entry ([.ref (ad 0 0), .int x1]) (n := 2) (Nat.le_of_ble_eq_true rfl)
  rw [lg_entry_eq]
  generalize (lg_sl ([.ref (ad 0 0), .int x1]) ++ List.replicate (2 - (lg_sl ([.ref (ad 0 0), .int x1])).length) Slot.unset).toArray = ls at hl ⊢
  have hl : lv_has ls 2 [(0, .ref (ad 0 0)), (1, .int x1)] := hl
  refine lv_iload_n hx hb dX3_found_0 rfl (lv_at hl 1 rfl) ?_
  refine lv_if_lt (tgt := 21) hx hb dX3_found_1 (by decide) (fun c_1 => ?_) (fun c_1 => ?_)
  · refine lv_bipush (v := (-4)) hx hb dX3_found_21 (by decide) ?_
    exact W.iret (v := (-4)) hx hb hr (fun t ht hW => ⟨⟨(-4), st, rfl, ⟨(by simp only [fX3_found, if_pos c_1]), rfl⟩, ow_Bi ht hP⟩, hS.F ht⟩) hS.2.2 dX3_found_23
  · refine lv_iload_n hx hb dX3_found_4 rfl (lv_at hl 1 rfl) ?_
    refine lv_aload_n hx hb dX3_found_5 rfl (lv_at hl 0 rfl) ?_
    refine og_get (C := RX3) (T := TX3) (N := 14) (g := 0) (i := 0) (v := .int (st.1 0 2)) hx hb hts li_X3_found_X3 hown hC hP (ow_q0_0) rfl rfl 13 (by decide) (hts _ lk_X3_found_1) rfl rfl dX3_found_6 ?_
    refine lv_icmp_ge (tgt := 21) hx hb dX3_found_9 (by decide) (fun c_2 => ?_) (fun c_2 => ?_)
    · refine lv_bipush (v := (-4)) hx hb dX3_found_21 (by decide) ?_
      exact W.iret (v := (-4)) hx hb hr (fun t ht hW => ⟨⟨(-4), st, rfl, ⟨(by simp only [fX3_found, if_neg c_1, if_pos c_2]), rfl⟩, ow_Bi ht hP⟩, hS.F ht⟩) hS.2.2 dX3_found_23
    · refine lv_aload_n hx hb dX3_found_12 rfl (lv_at hl 0 rfl) ?_
      refine og_get (C := RX3) (T := TX3) (N := 14) (g := 0) (i := 0) (v := .ref (ad 9 2)) hx hb hts li_X3_found_X3 hown hC hP (ow_q0_0) rfl rfl 12 (by decide) (hts _ lk_X3_found_2) rfl rfl dX3_found_13 ?_
      refine lv_iload_n hx hb dX3_found_16 rfl (lv_at hl 1 rfl) ?_
      refine og_iald (g := 9) (i := 2) (j := x1.toNatClampNeg) (v := (st.1 111 x1.toNatClampNeg)) hx hb hC hP (ow_q9_2) rfl (fs_in hf c_1 c_2) rfl rfl dX3_found_17 ?_
      refine lv_goto (tgt := 23) hx hb dX3_found_18 (by decide) ?_
      exact W.iret (v := (st.1 111 x1.toNatClampNeg)) hx hb hr (fun t ht hW => ⟨⟨(st.1 111 x1.toNatClampNeg), st, rfl, ⟨(by simp only [fX3_found, if_neg c_1, if_neg c_2]), rfl⟩, ow_Bi ht hP⟩, hS.F ht⟩) hS.2.2 dX3_found_23

theorem li_X3_count_X3 : ∀ w ∈ u_ws RX3 TX3 14, w ∈ wsX3_count := by decide +kernel
theorem lk_X3_count_1 : (.fieldLink RX3 45 "RecordLabels" "nodeTable" "LRecordLabels$Table;" : Cond) ∈ wsX3_count := by decide +kernel
theorem ln_X3_count_2 : (.fieldLinkNest RX3 162 "RecordLabels$Table" "size" "I" "RecordLabels" : Cond) ∈ ow_nest := by decide +kernel
theorem li_X3_count_X2 : ∀ w ∈ u_ws RX2 TX2 5, w ∈ wsX3_count := by decide +kernel
theorem lk_X3_count_4 : (.fieldLink RX3 49 "RecordLabels" "arcTable" "LRecordLabels$Table;" : Cond) ∈ wsX3_count := by decide +kernel
theorem lk_X3_count_5 : (.fieldLink RX3 56 "RecordLabels" "ruleFailures" "I" : Cond) ∈ wsX3_count := by decide +kernel
theorem lk_X3_count_6 : (.fieldLink RX3 60 "RecordLabels" "wrongRecords" "I" : Cond) ∈ wsX3_count := by decide +kernel
def fX3_count (st : ow_St) (x1 : Int32) : Int32 := (if x1 = 0 then (st.1 4 0) else (if x1 = 1 then (st.1 4 1) else (if x1 = 2 then (st.1 0 0) else (if x1 = 3 then (st.1 0 1) else (-1)))))
set_option maxHeartbeats 4000000 in
set_option maxRecDepth 100000 in
theorem kX3_count (l : Launch) (D : va_G) (ca : Nat → ClassId) (ad : ow_Ad) (A : Nat → Prop) (st : ow_St) (x1 : Int32) : Met l yX3_count wsX3_count ({ frames := 0, cells := 0, slots := 0, locals := 0 }) (va_Pc [.ref (ad 0 0), .int x1] (ow_W D ca ad A st)) (va_Qi (fun r st' => r = (fX3_count st x1) ∧ st' = st) (ow_B D ca ad) A) 0 0 A := by
  refine Met.ofW (cc := cX3_count) (maxL := 2) (ret := (some .int)) (by decide) rfl ?_
  intro p e s m args below meth c s₁ B hml hv
  obtain ⟨rfl, hP, hC⟩ := hv
  have hx := B.exec
  have hb := B.bytes
  have hr := B.returns
  have hts := atoms_spec (ws := wsX3_count) B.pre
  have hown : s.vm.findClass RX3 = some m.cls := findClass_of_methodNamed B.named
  have hlocks := B.notSynchronized
  have hS : va_S A s.heap s.heap [] := va_S.rf
  have hl := lv_entry ([.ref (ad 0 0), .int x1]) (n := 2) (Nat.le_of_ble_eq_true rfl)
  rw [lg_entry_eq]
  generalize (lg_sl ([.ref (ad 0 0), .int x1]) ++ List.replicate (2 - (lg_sl ([.ref (ad 0 0), .int x1])).length) Slot.unset).toArray = ls at hl ⊢
  have hl : lv_has ls 2 [(0, .ref (ad 0 0)), (1, .int x1)] := hl
  refine lv_iload_n hx hb dX3_count_0 rfl (lv_at hl 1 rfl) ?_
  by_cases c_1 : x1 = 0
  · refine lv_tableIn (tgt := 32) (off := 31) hx hb dX3_count_1 (by rw [c_1]; decide) (by rw [c_1]; decide) (by rw [c_1]; rfl) (by decide) ?_
    refine lv_aload_n hx hb dX3_count_32 rfl (lv_at hl 0 rfl) ?_
    refine og_get (C := RX3) (T := TX3) (N := 14) (g := 0) (i := 0) (v := .ref (ad 6 0)) hx hb hts li_X3_count_X3 hown hC hP (ow_q0_0) rfl rfl 4 (by decide) (hts _ lk_X3_count_1) rfl rfl dX3_count_33 ?_
    refine og_getN (C := RX2) (T := TX2) (N := 5) (g := 6) (i := 0) (v := .int (st.1 4 0)) hx hb hts li_X3_count_X2 hown hC hP (ow_q6_0) rfl rfl 4 (by decide) ln_X3_count_2 rfl rfl dX3_count_36 ?_
    exact W.iret (v := (st.1 4 0)) hx hb hr (fun t ht hW => ⟨⟨(st.1 4 0), st, rfl, ⟨(by simp only [fX3_count, if_pos c_1]), rfl⟩, ow_Bi ht hP⟩, hS.F ht⟩) hS.2.2 dX3_count_39
  · by_cases c_2 : x1 = 1
    · refine lv_tableIn (tgt := 40) (off := 39) hx hb dX3_count_1 (by rw [c_2]; decide) (by rw [c_2]; decide) (by rw [c_2]; rfl) (by decide) ?_
      refine lv_aload_n hx hb dX3_count_40 rfl (lv_at hl 0 rfl) ?_
      refine og_get (C := RX3) (T := TX3) (N := 14) (g := 0) (i := 0) (v := .ref (ad 6 1)) hx hb hts li_X3_count_X3 hown hC hP (ow_q0_0) rfl rfl 5 (by decide) (hts _ lk_X3_count_4) rfl rfl dX3_count_41 ?_
      refine og_getN (C := RX2) (T := TX2) (N := 5) (g := 6) (i := 1) (v := .int (st.1 4 1)) hx hb hts li_X3_count_X2 hown hC hP (ow_q6_1) rfl rfl 4 (by decide) ln_X3_count_2 rfl rfl dX3_count_44 ?_
      exact W.iret (v := (st.1 4 1)) hx hb hr (fun t ht hW => ⟨⟨(st.1 4 1), st, rfl, ⟨(by simp only [fX3_count, if_neg c_1, if_pos c_2]), rfl⟩, ow_Bi ht hP⟩, hS.F ht⟩) hS.2.2 dX3_count_47
    · by_cases c_3 : x1 = 2
      · refine lv_tableIn (tgt := 48) (off := 47) hx hb dX3_count_1 (by rw [c_3]; decide) (by rw [c_3]; decide) (by rw [c_3]; rfl) (by decide) ?_
        refine lv_aload_n hx hb dX3_count_48 rfl (lv_at hl 0 rfl) ?_
        refine og_get (C := RX3) (T := TX3) (N := 14) (g := 0) (i := 0) (v := .int (st.1 0 0)) hx hb hts li_X3_count_X3 hown hC hP (ow_q0_0) rfl rfl 7 (by decide) (hts _ lk_X3_count_5) rfl rfl dX3_count_49 ?_
        exact W.iret (v := (st.1 0 0)) hx hb hr (fun t ht hW => ⟨⟨(st.1 0 0), st, rfl, ⟨(by simp only [fX3_count, if_neg c_1, if_neg c_2, if_pos c_3]), rfl⟩, ow_Bi ht hP⟩, hS.F ht⟩) hS.2.2 dX3_count_52
      · by_cases c_4 : x1 = 3
        · refine lv_tableIn (tgt := 53) (off := 52) hx hb dX3_count_1 (by rw [c_4]; decide) (by rw [c_4]; decide) (by rw [c_4]; rfl) (by decide) ?_
          refine lv_aload_n hx hb dX3_count_53 rfl (lv_at hl 0 rfl) ?_
          refine og_get (C := RX3) (T := TX3) (N := 14) (g := 0) (i := 0) (v := .int (st.1 0 1)) hx hb hts li_X3_count_X3 hown hC hP (ow_q0_0) rfl rfl 8 (by decide) (hts _ lk_X3_count_6) rfl rfl dX3_count_54 ?_
          exact W.iret (v := (st.1 0 1)) hx hb hr (fun t ht hW => ⟨⟨(st.1 0 1), st, rfl, ⟨(by simp only [fX3_count, if_neg c_1, if_neg c_2, if_neg c_3, if_pos c_4]), rfl⟩, ow_Bi ht hP⟩, hS.F ht⟩) hS.2.2 dX3_count_57
        · refine lv_tableOut (tgt := 58) hx hb dX3_count_1 (by have h0 := ow_ne (n := 0) 0 rfl c_1; have h1 := ow_ne (n := 1) 1 rfl c_2; have h2 := ow_ne (n := 2) 2 rfl c_3; have h3 := ow_ne (n := 3) 3 rfl c_4; omega) (by decide) ?_
          refine lv_iconst (v := (-1)) hx hb dX3_count_58 (by decide) ?_
          exact W.iret (v := (-1)) hx hb hr (fun t ht hW => ⟨⟨(-1), st, rfl, ⟨(by simp only [fX3_count, if_neg c_1, if_neg c_2, if_neg c_3, if_neg c_4]), rfl⟩, ow_Bi ht hP⟩, hS.F ht⟩) hS.2.2 dX3_count_59
