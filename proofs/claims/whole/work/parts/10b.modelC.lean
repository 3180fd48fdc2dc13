def fX4_wrong_0_9 (st : ow_St) (x3 : Int32) : Int32 := (if (st.1 57 x3.toNatClampNeg) = (-1) then 0 else (if (fX4_isIn st (st.1 57 ((x3 + 1).toNatClampNeg)) 0 1000) = 0 then 1 else (if (st.1 57 ((x3 + 2).toNatClampNeg)) = (-1) then 2 else (-4))))
set_option maxHeartbeats 4000000 in
set_option maxRecDepth 100000 in
theorem kX4_wrong_0_9 (l : Launch) (D : va_G) (ca : Nat → ClassId) (ad : ow_Ad) (A : Nat → Prop) (st : ow_St) (x3 : Int32) (hat : ∃ a, a + 3 < 240 ∧ x3 = nI a) : Met l yX4_wrong wsX4_wrong ({ frames := 1, cells := 0, slots := 0, locals := 22 }) (va_Pc [.ref (ad 10 0), .int 0, .ref (ad 11 9), .int x3] (ow_W D ca ad A st)) (va_Qi (fun r st' => r = (fX4_wrong_0_9 st x3) ∧ st' = st) (ow_B D ca ad) A) 0 0 A := by
  refine Met.ofW (cc := cX4_wrong) (maxL := 5) (ret := (some .int)) (by decide) rfl ?_
  intro p e s m args below meth c s₁ B hml hv
  obtain ⟨rfl, hP, hC⟩ := hv
  have hx := B.exec
  have hb := B.bytes
  have hr := B.returns
  have hts := atoms_spec (ws := wsX4_wrong) B.pre
  have hown : s.vm.findClass RX4 = some m.cls := findClass_of_methodNamed B.named
  have hlocks := B.notSynchronized
  have hS : va_S A s.heap s.heap [] := va_S.rf
  have hl := lv_entry ([.ref (ad 10 0), .int 0, .ref (ad 11 9), .int x3]) (n := 5) (Nat.le_of_ble_eq_true rfl)
  rw [lg_entry_eq]
  generalize (lg_sl ([.ref (ad 10 0), .int 0, .ref (ad 11 9), .int x3]) ++ List.replicate (5 - (lg_sl ([.ref (ad 10 0), .int 0, .ref (ad 11 9), .int x3])).length) Slot.unset).toArray = ls at hl ⊢
  have hl : lv_has ls 5 [(0, .ref (ad 10 0)), (1, .int 0), (2, .ref (ad 11 9)), (3, .int x3)] := hl
  refine lv_aload_n hx hb dX4_wrong_0 rfl (lv_at hl 2 rfl) ?_
  refine lv_iload_n hx hb dX4_wrong_1 rfl (lv_at hl 3 rfl) ?_
  refine og_iald (g := 11) (i := 9) (j := x3.toNatClampNeg) (v := (st.1 57 x3.toNatClampNeg)) hx hb hC hP (ow_q11_9) rfl (at_in0 hat) rfl rfl dX4_wrong_2 ?_
  refine lv_iconst (v := (-1)) hx hb dX4_wrong_3 (by decide) ?_
  refine lv_icmp_ne (tgt := 9) hx hb dX4_wrong_4 (by decide) (fun c_1 => ?_) (fun c_1 => ?_)
  · refine lv_iload_n hx hb dX4_wrong_9 rfl (lv_at hl 1 rfl) ?_
    refine lv_if_ne (tgt := 48) hx hb dX4_wrong_10 (by decide) (fun c => absurd (by decide) c) (fun _ => ?_)
    refine lv_aload_n hx hb dX4_wrong_13 rfl (lv_at hl 2 rfl) ?_
    refine lv_iload_n hx hb dX4_wrong_14 rfl (lv_at hl 3 rfl) ?_
    refine lv_iconst (v := 1) hx hb dX4_wrong_15 (by decide) ?_
    refine lv_iadd hx hb dX4_wrong_16 ?_
    refine og_iald (g := 11) (i := 9) (j := ((x3 + 1).toNatClampNeg)) (v := (st.1 57 ((x3 + 1).toNatClampNeg))) hx hb hC hP (ow_q11_9) rfl (at_in (d := 1) hat (by decide)) rfl rfl dX4_wrong_17 ?_
    refine lv_iconst (v := 0) hx hb dX4_wrong_18 (by decide) ?_
    refine lv_sipush (v := 1000) hx hb dX4_wrong_19 (by decide) ?_
    refine og_ciP (og_runS (As := [.int (st.1 57 ((x3 + 1).toNatClampNeg)), .int 0, .int 1000]) (rest := []) ⟨hx, hb, hml, hown, hts⟩ (kX4_isIn l D ca ad A st (st.1 57 ((x3 + 1).toNatClampNeg)) 0 1000) (va_cwS 3 hts gX4_wrong_X4_isIn rfl rfl rfl (by decide +kernel) ⟨Nat.le_of_ble_eq_true rfl, Nat.le_of_ble_eq_true rfl⟩) hC hP hS rfl hl.1 rfl (Nat.le_of_ble_eq_true rfl) dX4_wrong_22 ⟨Nat.zero_le _, Nat.zero_le _⟩) hS (fun H locs hP hS => ?_)
    refine lv_if_ne (tgt := 32) hx hb dX4_wrong_25 (by decide) (fun c_2 => ?_) (fun c_2 => ?_)
    · refine lv_aload_n hx hb dX4_wrong_32 rfl (lv_at hl 2 rfl) ?_
      refine lv_iload_n hx hb dX4_wrong_33 rfl (lv_at hl 3 rfl) ?_
      refine lv_iconst (v := 2) hx hb dX4_wrong_34 (by decide) ?_
      refine lv_iadd hx hb dX4_wrong_35 ?_
      refine og_iald (g := 11) (i := 9) (j := ((x3 + 2).toNatClampNeg)) (v := (st.1 57 ((x3 + 2).toNatClampNeg))) hx hb hC hP (ow_q11_9) rfl (at_in (d := 2) hat (by decide)) rfl rfl dX4_wrong_36 ?_
      refine lv_iconst (v := (-1)) hx hb dX4_wrong_37 (by decide) ?_
      refine lv_icmp_ne (tgt := 45) hx hb dX4_wrong_38 (by decide) (fun c_3 => ?_) (fun c_3 => ?_)
      · refine lv_bipush (v := (-4)) hx hb dX4_wrong_45 (by decide) ?_
        exact W.iret (v := (-4)) hx hb hr (fun t ht hW => ⟨⟨(-4), st, rfl, ⟨(by simp only [fX4_wrong_0_9, if_neg c_1, if_neg c_2, if_neg c_3]), rfl⟩, ow_Bi ht hP⟩, hS.F ht⟩) hS.2.2 dX4_wrong_47
      · refine lv_iconst (v := 2) hx hb dX4_wrong_41 (by decide) ?_
        refine lv_goto (tgt := 47) hx hb dX4_wrong_42 (by decide) ?_
        exact W.iret (v := 2) hx hb hr (fun t ht hW => ⟨⟨2, st, rfl, ⟨(by simp only [fX4_wrong_0_9, if_neg c_1, if_neg c_2, if_pos c_3]), rfl⟩, ow_Bi ht hP⟩, hS.F ht⟩) hS.2.2 dX4_wrong_47
    · refine lv_iconst (v := 1) hx hb dX4_wrong_28 (by decide) ?_
      refine lv_goto (tgt := 47) hx hb dX4_wrong_29 (by decide) ?_
      exact W.iret (v := 1) hx hb hr (fun t ht hW => ⟨⟨1, st, rfl, ⟨(by simp only [fX4_wrong_0_9, if_neg c_1, if_pos c_2]), rfl⟩, ow_Bi ht hP⟩, hS.F ht⟩) hS.2.2 dX4_wrong_47
  · refine lv_iconst (v := 0) hx hb dX4_wrong_7 (by decide) ?_
    exact W.iret (v := 0) hx hb hr (fun t ht hW => ⟨⟨0, st, rfl, ⟨(by simp only [fX4_wrong_0_9, if_pos c_1]), rfl⟩, ow_Bi ht hP⟩, hS.F ht⟩) hS.2.2 dX4_wrong_8

def fX4_wrong_0_12 (st : ow_St) : Int32 := (if (st.1 60 0) = (-1) then 0 else (if (fX4_isIn st (st.1 60 1) 0 1000) = 0 then 1 else (if (st.1 60 2) = (-1) then 2 else (-4))))
set_option maxHeartbeats 4000000 in
set_option maxRecDepth 100000 in
theorem kX4_wrong_0_12 (l : Launch) (D : va_G) (ca : Nat → ClassId) (ad : ow_Ad) (A : Nat → Prop) (st : ow_St)  : Met l yX4_wrong wsX4_wrong ({ frames := 1, cells := 0, slots := 0, locals := 22 }) (va_Pc [.ref (ad 10 0), .int 0, .ref (ad 11 12), .int 0] (ow_W D ca ad A st)) (va_Qi (fun r st' => r = (fX4_wrong_0_12 st) ∧ st' = st) (ow_B D ca ad) A) 0 0 A := by
  refine Met.ofW (cc := cX4_wrong) (maxL := 5) (ret := (some .int)) (by decide) rfl ?_
  intro p e s m args below meth c s₁ B hml hv
  obtain ⟨rfl, hP, hC⟩ := hv
  have hx := B.exec
  have hb := B.bytes
  have hr := B.returns
  have hts := atoms_spec (ws := wsX4_wrong) B.pre
  have hown : s.vm.findClass RX4 = some m.cls := findClass_of_methodNamed B.named
  have hlocks := B.notSynchronized
  have hS : va_S A s.heap s.heap [] := va_S.rf
  have hl := lv_entry ([.ref (ad 10 0), .int 0, .ref (ad 11 12), .int 0]) (n := 5) (Nat.le_of_ble_eq_true rfl)
  rw [lg_entry_eq]
  generalize (lg_sl ([.ref (ad 10 0), .int 0, .ref (ad 11 12), .int 0]) ++ List.replicate (5 - (lg_sl ([.ref (ad 10 0), .int 0, .ref (ad 11 12), .int 0])).length) Slot.unset).toArray = ls at hl ⊢
  have hl : lv_has ls 5 [(0, .ref (ad 10 0)), (1, .int 0), (2, .ref (ad 11 12)), (3, .int 0)] := hl
  refine lv_aload_n hx hb dX4_wrong_0 rfl (lv_at hl 2 rfl) ?_
  refine lv_iload_n hx hb dX4_wrong_1 rfl (lv_at hl 3 rfl) ?_
  refine og_iald (g := 11) (i := 12) (j := 0) (v := (st.1 60 0)) hx hb hC hP (ow_q11_12) rfl (by unfold vp_in; decide) rfl rfl dX4_wrong_2 ?_
  refine lv_iconst (v := (-1)) hx hb dX4_wrong_3 (by decide) ?_
  refine lv_icmp_ne (tgt := 9) hx hb dX4_wrong_4 (by decide) (fun c_1 => ?_) (fun c_1 => ?_)
  · refine lv_iload_n hx hb dX4_wrong_9 rfl (lv_at hl 1 rfl) ?_
    refine lv_if_ne (tgt := 48) hx hb dX4_wrong_10 (by decide) (fun c => absurd (by decide) c) (fun _ => ?_)
    refine lv_aload_n hx hb dX4_wrong_13 rfl (lv_at hl 2 rfl) ?_
    refine lv_iload_n hx hb dX4_wrong_14 rfl (lv_at hl 3 rfl) ?_
    refine lv_iconst (v := 1) hx hb dX4_wrong_15 (by decide) ?_
    refine lv_iadd hx hb dX4_wrong_16 ?_
    rw [show (0 : Int32) + 1 = (1 : Int32) from rfl]
    refine og_iald (g := 11) (i := 12) (j := 1) (v := (st.1 60 1)) hx hb hC hP (ow_q11_12) rfl (by unfold vp_in; decide) rfl rfl dX4_wrong_17 ?_
    refine lv_iconst (v := 0) hx hb dX4_wrong_18 (by decide) ?_
    refine lv_sipush (v := 1000) hx hb dX4_wrong_19 (by decide) ?_
    refine og_ciP (og_runS (As := [.int (st.1 60 1), .int 0, .int 1000]) (rest := []) ⟨hx, hb, hml, hown, hts⟩ (kX4_isIn l D ca ad A st (st.1 60 1) 0 1000) (va_cwS 3 hts gX4_wrong_X4_isIn rfl rfl rfl (by decide +kernel) ⟨Nat.le_of_ble_eq_true rfl, Nat.le_of_ble_eq_true rfl⟩) hC hP hS rfl hl.1 rfl (Nat.le_of_ble_eq_true rfl) dX4_wrong_22 ⟨Nat.zero_le _, Nat.zero_le _⟩) hS (fun H locs hP hS => ?_)
    refine lv_if_ne (tgt := 32) hx hb dX4_wrong_25 (by decide) (fun c_2 => ?_) (fun c_2 => ?_)
    · refine lv_aload_n hx hb dX4_wrong_32 rfl (lv_at hl 2 rfl) ?_
      refine lv_iload_n hx hb dX4_wrong_33 rfl (lv_at hl 3 rfl) ?_
      refine lv_iconst (v := 2) hx hb dX4_wrong_34 (by decide) ?_
      refine lv_iadd hx hb dX4_wrong_35 ?_
      rw [show (0 : Int32) + 2 = (2 : Int32) from rfl]
      refine og_iald (g := 11) (i := 12) (j := 2) (v := (st.1 60 2)) hx hb hC hP (ow_q11_12) rfl (by unfold vp_in; decide) rfl rfl dX4_wrong_36 ?_
      refine lv_iconst (v := (-1)) hx hb dX4_wrong_37 (by decide) ?_
      refine lv_icmp_ne (tgt := 45) hx hb dX4_wrong_38 (by decide) (fun c_3 => ?_) (fun c_3 => ?_)
      · refine lv_bipush (v := (-4)) hx hb dX4_wrong_45 (by decide) ?_
        exact W.iret (v := (-4)) hx hb hr (fun t ht hW => ⟨⟨(-4), st, rfl, ⟨(by simp only [fX4_wrong_0_12, if_neg c_1, if_neg c_2, if_neg c_3]), rfl⟩, ow_Bi ht hP⟩, hS.F ht⟩) hS.2.2 dX4_wrong_47
      · refine lv_iconst (v := 2) hx hb dX4_wrong_41 (by decide) ?_
        refine lv_goto (tgt := 47) hx hb dX4_wrong_42 (by decide) ?_
        exact W.iret (v := 2) hx hb hr (fun t ht hW => ⟨⟨2, st, rfl, ⟨(by simp only [fX4_wrong_0_12, if_neg c_1, if_neg c_2, if_pos c_3]), rfl⟩, ow_Bi ht hP⟩, hS.F ht⟩) hS.2.2 dX4_wrong_47
    · refine lv_iconst (v := 1) hx hb dX4_wrong_28 (by decide) ?_
      refine lv_goto (tgt := 47) hx hb dX4_wrong_29 (by decide) ?_
      exact W.iret (v := 1) hx hb hr (fun t ht hW => ⟨⟨1, st, rfl, ⟨(by simp only [fX4_wrong_0_12, if_neg c_1, if_pos c_2]), rfl⟩, ow_Bi ht hP⟩, hS.F ht⟩) hS.2.2 dX4_wrong_47
  · refine lv_iconst (v := 0) hx hb dX4_wrong_7 (by decide) ?_
    exact W.iret (v := 0) hx hb hr (fun t ht hW => ⟨⟨0, st, rfl, ⟨(by simp only [fX4_wrong_0_12, if_pos c_1]), rfl⟩, ow_Bi ht hP⟩, hS.F ht⟩) hS.2.2 dX4_wrong_8

theorem li_X4_wrong_1_9_X4 : ∀ w ∈ u_ws RX4 TX4 19, w ∈ wsX4_wrong := by decide +kernel
theorem lk_X4_wrong_1_9_1 : (.fieldLink RX4 60 "RecordLabelsModel" "records" "[I" : Cond) ∈ wsX4_wrong := by decide +kernel
theorem lk_X4_wrong_1_9_2 : (.constant RX4 136 (1000000) : Cond) ∈ wsX4_wrong := by decide +kernel
def fX4_wrong_1_9 (st : ow_St) (x3 : Int32) : Int32 := (if (st.1 57 x3.toNatClampNeg) = (-1) then 0 else (if (fX4_isIn st (st.1 57 ((x3 + 1).toNatClampNeg)) 0 ((st.1 56 0) - 1)) = 0 then 1 else (if (fX4_isIn st (st.1 57 ((x3 + 2).toNatClampNeg)) 0 ((st.1 56 0) - 1)) = 0 then 2 else (if (fX4_isIn st (st.1 57 ((x3 + 3).toNatClampNeg)) 0 1000000) = 0 then 3 else (if (st.1 57 ((x3 + 1).toNatClampNeg)) = (st.1 57 ((x3 + 2).toNatClampNeg)) then 2 else (-4))))))
set_option maxHeartbeats 4000000 in
set_option maxRecDepth 100000 in
theorem kX4_wrong_1_9 (l : Launch) (D : va_G) (ca : Nat → ClassId) (ad : ow_Ad) (A : Nat → Prop) (st : ow_St) (x3 : Int32) (hat : ∃ a, a + 3 < 240 ∧ x3 = nI a) : Met l yX4_wrong wsX4_wrong ({ frames := 1, cells := 0, slots := 0, locals := 22 }) (va_Pc [.ref (ad 10 0), .int 1, .ref (ad 11 9), .int x3] (ow_W D ca ad A st)) (va_Qi (fun r st' => r = (fX4_wrong_1_9 st x3) ∧ st' = st) (ow_B D ca ad) A) 0 0 A := by
  refine Met.ofW (cc := cX4_wrong) (maxL := 5) (ret := (some .int)) (by decide) rfl ?_
  intro p e s m args below meth c s₁ B hml hv
  obtain ⟨rfl, hP, hC⟩ := hv
  have hx := B.exec
  have hb := B.bytes
  have hr := B.returns
  have hts := atoms_spec (ws := wsX4_wrong) B.pre
  have hown : s.vm.findClass RX4 = some m.cls := findClass_of_methodNamed B.named
  have hlocks := B.notSynchronized
  have hS : va_S A s.heap s.heap [] := va_S.rf
  have hl := lv_entry ([.ref (ad 10 0), .int 1, .ref (ad 11 9), .int x3]) (n := 5) (Nat.le_of_ble_eq_true rfl)
  rw [lg_entry_eq]
  generalize (lg_sl ([.ref (ad 10 0), .int 1, .ref (ad 11 9), .int x3]) ++ List.replicate (5 - (lg_sl ([.ref (ad 10 0), .int 1, .ref (ad 11 9), .int x3])).length) Slot.unset).toArray = ls at hl ⊢
  have hl : lv_has ls 5 [(0, .ref (ad 10 0)), (1, .int 1), (2, .ref (ad 11 9)), (3, .int x3)] := hl
  refine lv_aload_n hx hb dX4_wrong_0 rfl (lv_at hl 2 rfl) ?_
  refine lv_iload_n hx hb dX4_wrong_1 rfl (lv_at hl 3 rfl) ?_
  refine og_iald (g := 11) (i := 9) (j := x3.toNatClampNeg) (v := (st.1 57 x3.toNatClampNeg)) hx hb hC hP (ow_q11_9) rfl (at_in0 hat) rfl rfl dX4_wrong_2 ?_
  refine lv_iconst (v := (-1)) hx hb dX4_wrong_3 (by decide) ?_
  refine lv_icmp_ne (tgt := 9) hx hb dX4_wrong_4 (by decide) (fun c_1 => ?_) (fun c_1 => ?_)
  · refine lv_iload_n hx hb dX4_wrong_9 rfl (lv_at hl 1 rfl) ?_
    refine lv_if_ne (tgt := 48) hx hb dX4_wrong_10 (by decide) (fun _ => ?_) (fun c => absurd c (by decide))
    refine lv_iconst (v := 1) hx hb dX4_wrong_48 (by decide) ?_
    refine lv_istore (lv' := [(4, .int 1), (0, .ref (ad 10 0)), (1, .int 1), (2, .ref (ad 11 9)), (3, .int x3)]) hx hb dX4_wrong_49 hl (by decide) rfl (fun ls hl => ?_)
    refine lv_iload hx hb dX4_wrong_51 (lv_at hl 0 rfl) ?_
    refine lv_iconst (v := 3) hx hb dX4_wrong_53 (by decide) ?_
    refine lv_icmp_ge (tgt := 87) hx hb dX4_wrong_54 (by decide) (fun c => absurd c (by decide)) (fun _ => ?_)
    refine lv_aload_n hx hb dX4_wrong_57 rfl (lv_at hl 3 rfl) ?_
    refine lv_iload_n hx hb dX4_wrong_58 rfl (lv_at hl 4 rfl) ?_
    refine lv_iload hx hb dX4_wrong_59 (lv_at hl 0 rfl) ?_
    refine lv_iadd hx hb dX4_wrong_61 ?_
    refine og_iald (g := 11) (i := 9) (j := ((x3 + 1).toNatClampNeg)) (v := (st.1 57 ((x3 + 1).toNatClampNeg))) hx hb hC hP (ow_q11_9) rfl (at_in (d := 1) hat (by decide)) rfl rfl dX4_wrong_62 ?_
    refine lv_iconst (v := 0) hx hb dX4_wrong_63 (by decide) ?_
    refine lv_aload_n hx hb dX4_wrong_64 rfl (lv_at hl 1 rfl) ?_
    refine og_get (C := RX4) (T := TX4) (N := 19) (g := 10) (i := 0) (v := .ref (ad 11 8)) hx hb hts li_X4_wrong_1_9_X4 hown hC hP (ow_q10_0) rfl rfl 11 (by decide) (hts _ lk_X4_wrong_1_9_1) rfl rfl dX4_wrong_65 ?_
    refine lv_iconst (v := 0) hx hb dX4_wrong_68 (by decide) ?_
    refine og_iald (g := 11) (i := 8) (j := 0) (v := (st.1 56 0)) hx hb hC hP (ow_q11_8) rfl (by unfold vp_in; decide) rfl rfl dX4_wrong_69 ?_
    refine lv_iconst (v := 1) hx hb dX4_wrong_70 (by decide) ?_
    refine lv_isub hx hb dX4_wrong_71 ?_
    refine og_ciP (og_runS (As := [.int (st.1 57 ((x3 + 1).toNatClampNeg)), .int 0, .int ((st.1 56 0) - 1)]) (rest := []) ⟨hx, hb, hml, hown, hts⟩ (kX4_isIn l D ca ad A st (st.1 57 ((x3 + 1).toNatClampNeg)) 0 ((st.1 56 0) - 1)) (va_cwS 3 hts gX4_wrong_X4_isIn rfl rfl rfl (by decide +kernel) ⟨Nat.le_of_ble_eq_true rfl, Nat.le_of_ble_eq_true rfl⟩) hC hP hS rfl hl.1 rfl (Nat.le_of_ble_eq_true rfl) dX4_wrong_72 ⟨Nat.zero_le _, Nat.zero_le _⟩) hS (fun H locs hP hS => ?_)
    refine lv_if_ne (tgt := 81) hx hb dX4_wrong_75 (by decide) (fun c_2 => ?_) (fun c_2 => ?_)
    · refine lv_iinc (v := 2) (lv' := [(4, .int 2), (0, .ref (ad 10 0)), (1, .int 1), (2, .ref (ad 11 9)), (3, .int x3)]) hx hb dX4_wrong_81 hl (k := 0) rfl (by decide) (by decide) rfl (fun ls hl => ?_)
      refine lv_goto (tgt := 51) hx hb dX4_wrong_84 (by decide) ?_
      refine lv_iload hx hb dX4_wrong_51 (lv_at hl 0 rfl) ?_
      refine lv_iconst (v := 3) hx hb dX4_wrong_53 (by decide) ?_
      refine lv_icmp_ge (tgt := 87) hx hb dX4_wrong_54 (by decide) (fun c => absurd c (by decide)) (fun _ => ?_)
      refine lv_aload_n hx hb dX4_wrong_57 rfl (lv_at hl 3 rfl) ?_
      refine lv_iload_n hx hb dX4_wrong_58 rfl (lv_at hl 4 rfl) ?_
      refine lv_iload hx hb dX4_wrong_59 (lv_at hl 0 rfl) ?_
      refine lv_iadd hx hb dX4_wrong_61 ?_
      refine og_iald (g := 11) (i := 9) (j := ((x3 + 2).toNatClampNeg)) (v := (st.1 57 ((x3 + 2).toNatClampNeg))) hx hb hC hP (ow_q11_9) rfl (at_in (d := 2) hat (by decide)) rfl rfl dX4_wrong_62 ?_
      refine lv_iconst (v := 0) hx hb dX4_wrong_63 (by decide) ?_
      refine lv_aload_n hx hb dX4_wrong_64 rfl (lv_at hl 1 rfl) ?_
      refine og_get (C := RX4) (T := TX4) (N := 19) (g := 10) (i := 0) (v := .ref (ad 11 8)) hx hb hts li_X4_wrong_1_9_X4 hown hC hP (ow_q10_0) rfl rfl 11 (by decide) (hts _ lk_X4_wrong_1_9_1) rfl rfl dX4_wrong_65 ?_
      refine lv_iconst (v := 0) hx hb dX4_wrong_68 (by decide) ?_
      refine og_iald (g := 11) (i := 8) (j := 0) (v := (st.1 56 0)) hx hb hC hP (ow_q11_8) rfl (by unfold vp_in; decide) rfl rfl dX4_wrong_69 ?_
      refine lv_iconst (v := 1) hx hb dX4_wrong_70 (by decide) ?_
      refine lv_isub hx hb dX4_wrong_71 ?_
      refine og_ciP (og_runS (As := [.int (st.1 57 ((x3 + 2).toNatClampNeg)), .int 0, .int ((st.1 56 0) - 1)]) (rest := []) ⟨hx, hb, hml, hown, hts⟩ (kX4_isIn l D ca ad A st (st.1 57 ((x3 + 2).toNatClampNeg)) 0 ((st.1 56 0) - 1)) (va_cwS 3 hts gX4_wrong_X4_isIn rfl rfl rfl (by decide +kernel) ⟨Nat.le_of_ble_eq_true rfl, Nat.le_of_ble_eq_true rfl⟩) hC hP hS rfl hl.1 rfl (Nat.le_of_ble_eq_true rfl) dX4_wrong_72 ⟨Nat.zero_le _, Nat.zero_le _⟩) hS (fun H locs hP hS => ?_)
      refine lv_if_ne (tgt := 81) hx hb dX4_wrong_75 (by decide) (fun c_3 => ?_) (fun c_3 => ?_)
      · refine lv_iinc (v := 3) (lv' := [(4, .int 3), (0, .ref (ad 10 0)), (1, .int 1), (2, .ref (ad 11 9)), (3, .int x3)]) hx hb dX4_wrong_81 hl (k := 0) rfl (by decide) (by decide) rfl (fun ls hl => ?_)
        refine lv_goto (tgt := 51) hx hb dX4_wrong_84 (by decide) ?_
        refine lv_iload hx hb dX4_wrong_51 (lv_at hl 0 rfl) ?_
        refine lv_iconst (v := 3) hx hb dX4_wrong_53 (by decide) ?_
        refine lv_icmp_ge (tgt := 87) hx hb dX4_wrong_54 (by decide) (fun _ => ?_) (fun c => absurd (by decide) c)
        refine lv_aload_n hx hb dX4_wrong_87 rfl (lv_at hl 3 rfl) ?_
        refine lv_iload_n hx hb dX4_wrong_88 rfl (lv_at hl 4 rfl) ?_
        refine lv_iconst (v := 3) hx hb dX4_wrong_89 (by decide) ?_
        refine lv_iadd hx hb dX4_wrong_90 ?_
        refine og_iald (g := 11) (i := 9) (j := ((x3 + 3).toNatClampNeg)) (v := (st.1 57 ((x3 + 3).toNatClampNeg))) hx hb hC hP (ow_q11_9) rfl (at_in (d := 3) hat (by decide)) rfl rfl dX4_wrong_91 ?_
        refine lv_iconst (v := 0) hx hb dX4_wrong_92 (by decide) ?_
        refine lv_ldc (v := 1000000) hx hb hown (hts _ lk_X4_wrong_1_9_2) dX4_wrong_93 ?_
        refine og_ciP (og_runS (As := [.int (st.1 57 ((x3 + 3).toNatClampNeg)), .int 0, .int 1000000]) (rest := []) ⟨hx, hb, hml, hown, hts⟩ (kX4_isIn l D ca ad A st (st.1 57 ((x3 + 3).toNatClampNeg)) 0 1000000) (va_cwS 3 hts gX4_wrong_X4_isIn rfl rfl rfl (by decide +kernel) ⟨Nat.le_of_ble_eq_true rfl, Nat.le_of_ble_eq_true rfl⟩) hC hP hS rfl hl.1 rfl (Nat.le_of_ble_eq_true rfl) dX4_wrong_95 ⟨Nat.zero_le _, Nat.zero_le _⟩) hS (fun H locs hP hS => ?_)
        refine lv_if_ne (tgt := 105) hx hb dX4_wrong_98 (by decide) (fun c_4 => ?_) (fun c_4 => ?_)
        · refine lv_aload_n hx hb dX4_wrong_105 rfl (lv_at hl 3 rfl) ?_
          refine lv_iload_n hx hb dX4_wrong_106 rfl (lv_at hl 4 rfl) ?_
          refine lv_iconst (v := 1) hx hb dX4_wrong_107 (by decide) ?_
          refine lv_iadd hx hb dX4_wrong_108 ?_
          refine og_iald (g := 11) (i := 9) (j := ((x3 + 1).toNatClampNeg)) (v := (st.1 57 ((x3 + 1).toNatClampNeg))) hx hb hC hP (ow_q11_9) rfl (at_in (d := 1) hat (by decide)) rfl rfl dX4_wrong_109 ?_
          refine lv_aload_n hx hb dX4_wrong_110 rfl (lv_at hl 3 rfl) ?_
          refine lv_iload_n hx hb dX4_wrong_111 rfl (lv_at hl 4 rfl) ?_
          refine lv_iconst (v := 2) hx hb dX4_wrong_112 (by decide) ?_
          refine lv_iadd hx hb dX4_wrong_113 ?_
          refine og_iald (g := 11) (i := 9) (j := ((x3 + 2).toNatClampNeg)) (v := (st.1 57 ((x3 + 2).toNatClampNeg))) hx hb hC hP (ow_q11_9) rfl (at_in (d := 2) hat (by decide)) rfl rfl dX4_wrong_114 ?_
          refine lv_icmp_ne (tgt := 122) hx hb dX4_wrong_115 (by decide) (fun c_5 => ?_) (fun c_5 => ?_)
          · refine lv_bipush (v := (-4)) hx hb dX4_wrong_122 (by decide) ?_
            exact W.iret (v := (-4)) hx hb hr (fun t ht hW => ⟨⟨(-4), st, rfl, ⟨(by simp only [fX4_wrong_1_9, if_neg c_1, if_neg c_2, if_neg c_3, if_neg c_4, if_neg c_5]), rfl⟩, ow_Bi ht hP⟩, hS.F ht⟩) hS.2.2 dX4_wrong_124
          · refine lv_iconst (v := 2) hx hb dX4_wrong_118 (by decide) ?_
            refine lv_goto (tgt := 124) hx hb dX4_wrong_119 (by decide) ?_
            exact W.iret (v := 2) hx hb hr (fun t ht hW => ⟨⟨2, st, rfl, ⟨(by simp only [fX4_wrong_1_9, if_neg c_1, if_neg c_2, if_neg c_3, if_neg c_4, if_pos c_5]), rfl⟩, ow_Bi ht hP⟩, hS.F ht⟩) hS.2.2 dX4_wrong_124
        · refine lv_iconst (v := 3) hx hb dX4_wrong_101 (by decide) ?_
          refine lv_goto (tgt := 124) hx hb dX4_wrong_102 (by decide) ?_
          exact W.iret (v := 3) hx hb hr (fun t ht hW => ⟨⟨3, st, rfl, ⟨(by simp only [fX4_wrong_1_9, if_neg c_1, if_neg c_2, if_neg c_3, if_pos c_4]), rfl⟩, ow_Bi ht hP⟩, hS.F ht⟩) hS.2.2 dX4_wrong_124
      · refine lv_iload hx hb dX4_wrong_78 (lv_at hl 0 rfl) ?_
        exact W.iret (v := 2) hx hb hr (fun t ht hW => ⟨⟨2, st, rfl, ⟨(by simp only [fX4_wrong_1_9, if_neg c_1, if_neg c_2, if_pos c_3]), rfl⟩, ow_Bi ht hP⟩, hS.F ht⟩) hS.2.2 dX4_wrong_80
    · refine lv_iload hx hb dX4_wrong_78 (lv_at hl 0 rfl) ?_
      exact W.iret (v := 1) hx hb hr (fun t ht hW => ⟨⟨1, st, rfl, ⟨(by simp only [fX4_wrong_1_9, if_neg c_1, if_pos c_2]), rfl⟩, ow_Bi ht hP⟩, hS.F ht⟩) hS.2.2 dX4_wrong_80
  · refine lv_iconst (v := 0) hx hb dX4_wrong_7 (by decide) ?_
    exact W.iret (v := 0) hx hb hr (fun t ht hW => ⟨⟨0, st, rfl, ⟨(by simp only [fX4_wrong_1_9, if_pos c_1]), rfl⟩, ow_Bi ht hP⟩, hS.F ht⟩) hS.2.2 dX4_wrong_8

theorem li_X4_wrong_1_12_X4 : ∀ w ∈ u_ws RX4 TX4 19, w ∈ wsX4_wrong := by decide +kernel
theorem lk_X4_wrong_1_12_1 : (.fieldLink RX4 60 "RecordLabelsModel" "records" "[I" : Cond) ∈ wsX4_wrong := by decide +kernel
theorem lk_X4_wrong_1_12_2 : (.constant RX4 136 (1000000) : Cond) ∈ wsX4_wrong := by decide +kernel
def fX4_wrong_1_12 (st : ow_St) : Int32 := (if (st.1 60 0) = (-1) then 0 else (if (fX4_isIn st (st.1 60 1) 0 ((st.1 56 0) - 1)) = 0 then 1 else (if (fX4_isIn st (st.1 60 2) 0 ((st.1 56 0) - 1)) = 0 then 2 else (if (fX4_isIn st (st.1 60 3) 0 1000000) = 0 then 3 else (if (st.1 60 1) = (st.1 60 2) then 2 else (-4))))))
set_option maxHeartbeats 4000000 in
set_option maxRecDepth 100000 in
theorem kX4_wrong_1_12 (l : Launch) (D : va_G) (ca : Nat → ClassId) (ad : ow_Ad) (A : Nat → Prop) (st : ow_St)  : Met l yX4_wrong wsX4_wrong ({ frames := 1, cells := 0, slots := 0, locals := 22 }) (va_Pc [.ref (ad 10 0), .int 1, .ref (ad 11 12), .int 0] (ow_W D ca ad A st)) (va_Qi (fun r st' => r = (fX4_wrong_1_12 st) ∧ st' = st) (ow_B D ca ad) A) 0 0 A := by
  refine Met.ofW (cc := cX4_wrong) (maxL := 5) (ret := (some .int)) (by decide) rfl ?_
  intro p e s m args below meth c s₁ B hml hv
  obtain ⟨rfl, hP, hC⟩ := hv
  have hx := B.exec
  have hb := B.bytes
  have hr := B.returns
  have hts := atoms_spec (ws := wsX4_wrong) B.pre
  have hown : s.vm.findClass RX4 = some m.cls := findClass_of_methodNamed B.named
  have hlocks := B.notSynchronized
  have hS : va_S A s.heap s.heap [] := va_S.rf
  have hl := lv_entry ([.ref (ad 10 0), .int 1, .ref (ad 11 12), .int 0]) (n := 5) (Nat.le_of_ble_eq_true rfl)
  rw [lg_entry_eq]
  generalize (lg_sl ([.ref (ad 10 0), .int 1, .ref (ad 11 12), .int 0]) ++ List.replicate (5 - (lg_sl ([.ref (ad 10 0), .int 1, .ref (ad 11 12), .int 0])).length) Slot.unset).toArray = ls at hl ⊢
  have hl : lv_has ls 5 [(0, .ref (ad 10 0)), (1, .int 1), (2, .ref (ad 11 12)), (3, .int 0)] := hl
  refine lv_aload_n hx hb dX4_wrong_0 rfl (lv_at hl 2 rfl) ?_
  refine lv_iload_n hx hb dX4_wrong_1 rfl (lv_at hl 3 rfl) ?_
  refine og_iald (g := 11) (i := 12) (j := 0) (v := (st.1 60 0)) hx hb hC hP (ow_q11_12) rfl (by unfold vp_in; decide) rfl rfl dX4_wrong_2 ?_
  refine lv_iconst (v := (-1)) hx hb dX4_wrong_3 (by decide) ?_
  refine lv_icmp_ne (tgt := 9) hx hb dX4_wrong_4 (by decide) (fun c_1 => ?_) (fun c_1 => ?_)
  · refine lv_iload_n hx hb dX4_wrong_9 rfl (lv_at hl 1 rfl) ?_
    refine lv_if_ne (tgt := 48) hx hb dX4_wrong_10 (by decide) (fun _ => ?_) (fun c => absurd c (by decide))
    refine lv_iconst (v := 1) hx hb dX4_wrong_48 (by decide) ?_
    refine lv_istore (lv' := [(4, .int 1), (0, .ref (ad 10 0)), (1, .int 1), (2, .ref (ad 11 12)), (3, .int 0)]) hx hb dX4_wrong_49 hl (by decide) rfl (fun ls hl => ?_)
    refine lv_iload hx hb dX4_wrong_51 (lv_at hl 0 rfl) ?_
    refine lv_iconst (v := 3) hx hb dX4_wrong_53 (by decide) ?_
    refine lv_icmp_ge (tgt := 87) hx hb dX4_wrong_54 (by decide) (fun c => absurd c (by decide)) (fun _ => ?_)
    refine lv_aload_n hx hb dX4_wrong_57 rfl (lv_at hl 3 rfl) ?_
    refine lv_iload_n hx hb dX4_wrong_58 rfl (lv_at hl 4 rfl) ?_
    refine lv_iload hx hb dX4_wrong_59 (lv_at hl 0 rfl) ?_
    refine lv_iadd hx hb dX4_wrong_61 ?_
    rw [show (0 : Int32) + 1 = (1 : Int32) from rfl]
    refine og_iald (g := 11) (i := 12) (j := 1) (v := (st.1 60 1)) hx hb hC hP (ow_q11_12) rfl (by unfold vp_in; decide) rfl rfl dX4_wrong_62 ?_
    refine lv_iconst (v := 0) hx hb dX4_wrong_63 (by decide) ?_
    refine lv_aload_n hx hb dX4_wrong_64 rfl (lv_at hl 1 rfl) ?_
    refine og_get (C := RX4) (T := TX4) (N := 19) (g := 10) (i := 0) (v := .ref (ad 11 8)) hx hb hts li_X4_wrong_1_12_X4 hown hC hP (ow_q10_0) rfl rfl 11 (by decide) (hts _ lk_X4_wrong_1_12_1) rfl rfl dX4_wrong_65 ?_
    refine lv_iconst (v := 0) hx hb dX4_wrong_68 (by decide) ?_
    refine og_iald (g := 11) (i := 8) (j := 0) (v := (st.1 56 0)) hx hb hC hP (ow_q11_8) rfl (by unfold vp_in; decide) rfl rfl dX4_wrong_69 ?_
    refine lv_iconst (v := 1) hx hb dX4_wrong_70 (by decide) ?_
    refine lv_isub hx hb dX4_wrong_71 ?_
    refine og_ciP (og_runS (As := [.int (st.1 60 1), .int 0, .int ((st.1 56 0) - 1)]) (rest := []) ⟨hx, hb, hml, hown, hts⟩ (kX4_isIn l D ca ad A st (st.1 60 1) 0 ((st.1 56 0) - 1)) (va_cwS 3 hts gX4_wrong_X4_isIn rfl rfl rfl (by decide +kernel) ⟨Nat.le_of_ble_eq_true rfl, Nat.le_of_ble_eq_true rfl⟩) hC hP hS rfl hl.1 rfl (Nat.le_of_ble_eq_true rfl) dX4_wrong_72 ⟨Nat.zero_le _, Nat.zero_le _⟩) hS (fun H locs hP hS => ?_)
    refine lv_if_ne (tgt := 81) hx hb dX4_wrong_75 (by decide) (fun c_2 => ?_) (fun c_2 => ?_)
    · refine lv_iinc (v := 2) (lv' := [(4, .int 2), (0, .ref (ad 10 0)), (1, .int 1), (2, .ref (ad 11 12)), (3, .int 0)]) hx hb dX4_wrong_81 hl (k := 0) rfl (by decide) (by decide) rfl (fun ls hl => ?_)
      refine lv_goto (tgt := 51) hx hb dX4_wrong_84 (by decide) ?_
      refine lv_iload hx hb dX4_wrong_51 (lv_at hl 0 rfl) ?_
      refine lv_iconst (v := 3) hx hb dX4_wrong_53 (by decide) ?_
      refine lv_icmp_ge (tgt := 87) hx hb dX4_wrong_54 (by decide) (fun c => absurd c (by decide)) (fun _ => ?_)
      refine lv_aload_n hx hb dX4_wrong_57 rfl (lv_at hl 3 rfl) ?_
      refine lv_iload_n hx hb dX4_wrong_58 rfl (lv_at hl 4 rfl) ?_
      refine lv_iload hx hb dX4_wrong_59 (lv_at hl 0 rfl) ?_
      refine lv_iadd hx hb dX4_wrong_61 ?_
      rw [show (0 : Int32) + 2 = (2 : Int32) from rfl]
      refine og_iald (g := 11) (i := 12) (j := 2) (v := (st.1 60 2)) hx hb hC hP (ow_q11_12) rfl (by unfold vp_in; decide) rfl rfl dX4_wrong_62 ?_
      refine lv_iconst (v := 0) hx hb dX4_wrong_63 (by decide) ?_
      refine lv_aload_n hx hb dX4_wrong_64 rfl (lv_at hl 1 rfl) ?_
      refine og_get (C := RX4) (T := TX4) (N := 19) (g := 10) (i := 0) (v := .ref (ad 11 8)) hx hb hts li_X4_wrong_1_12_X4 hown hC hP (ow_q10_0) rfl rfl 11 (by decide) (hts _ lk_X4_wrong_1_12_1) rfl rfl dX4_wrong_65 ?_
      refine lv_iconst (v := 0) hx hb dX4_wrong_68 (by decide) ?_
      refine og_iald (g := 11) (i := 8) (j := 0) (v := (st.1 56 0)) hx hb hC hP (ow_q11_8) rfl (by unfold vp_in; decide) rfl rfl dX4_wrong_69 ?_
      refine lv_iconst (v := 1) hx hb dX4_wrong_70 (by decide) ?_
      refine lv_isub hx hb dX4_wrong_71 ?_
      refine og_ciP (og_runS (As := [.int (st.1 60 2), .int 0, .int ((st.1 56 0) - 1)]) (rest := []) ⟨hx, hb, hml, hown, hts⟩ (kX4_isIn l D ca ad A st (st.1 60 2) 0 ((st.1 56 0) - 1)) (va_cwS 3 hts gX4_wrong_X4_isIn rfl rfl rfl (by decide +kernel) ⟨Nat.le_of_ble_eq_true rfl, Nat.le_of_ble_eq_true rfl⟩) hC hP hS rfl hl.1 rfl (Nat.le_of_ble_eq_true rfl) dX4_wrong_72 ⟨Nat.zero_le _, Nat.zero_le _⟩) hS (fun H locs hP hS => ?_)
      refine lv_if_ne (tgt := 81) hx hb dX4_wrong_75 (by decide) (fun c_3 => ?_) (fun c_3 => ?_)
      · refine lv_iinc (v := 3) (lv' := [(4, .int 3), (0, .ref (ad 10 0)), (1, .int 1), (2, .ref (ad 11 12)), (3, .int 0)]) hx hb dX4_wrong_81 hl (k := 0) rfl (by decide) (by decide) rfl (fun ls hl => ?_)
        refine lv_goto (tgt := 51) hx hb dX4_wrong_84 (by decide) ?_
        refine lv_iload hx hb dX4_wrong_51 (lv_at hl 0 rfl) ?_
        refine lv_iconst (v := 3) hx hb dX4_wrong_53 (by decide) ?_
        refine lv_icmp_ge (tgt := 87) hx hb dX4_wrong_54 (by decide) (fun _ => ?_) (fun c => absurd (by decide) c)
        refine lv_aload_n hx hb dX4_wrong_87 rfl (lv_at hl 3 rfl) ?_
        refine lv_iload_n hx hb dX4_wrong_88 rfl (lv_at hl 4 rfl) ?_
        refine lv_iconst (v := 3) hx hb dX4_wrong_89 (by decide) ?_
        refine lv_iadd hx hb dX4_wrong_90 ?_
        rw [show (0 : Int32) + 3 = (3 : Int32) from rfl]
        refine og_iald (g := 11) (i := 12) (j := 3) (v := (st.1 60 3)) hx hb hC hP (ow_q11_12) rfl (by unfold vp_in; decide) rfl rfl dX4_wrong_91 ?_
        refine lv_iconst (v := 0) hx hb dX4_wrong_92 (by decide) ?_
        refine lv_ldc (v := 1000000) hx hb hown (hts _ lk_X4_wrong_1_12_2) dX4_wrong_93 ?_
        refine og_ciP (og_runS (As := [.int (st.1 60 3), .int 0, .int 1000000]) (rest := []) ⟨hx, hb, hml, hown, hts⟩ (kX4_isIn l D ca ad A st (st.1 60 3) 0 1000000) (va_cwS 3 hts gX4_wrong_X4_isIn rfl rfl rfl (by decide +kernel) ⟨Nat.le_of_ble_eq_true rfl, Nat.le_of_ble_eq_true rfl⟩) hC hP hS rfl hl.1 rfl (Nat.le_of_ble_eq_true rfl) dX4_wrong_95 ⟨Nat.zero_le _, Nat.zero_le _⟩) hS (fun H locs hP hS => ?_)
        refine lv_if_ne (tgt := 105) hx hb dX4_wrong_98 (by decide) (fun c_4 => ?_) (fun c_4 => ?_)
        · refine lv_aload_n hx hb dX4_wrong_105 rfl (lv_at hl 3 rfl) ?_
          refine lv_iload_n hx hb dX4_wrong_106 rfl (lv_at hl 4 rfl) ?_
          refine lv_iconst (v := 1) hx hb dX4_wrong_107 (by decide) ?_
          refine lv_iadd hx hb dX4_wrong_108 ?_
          rw [show (0 : Int32) + 1 = (1 : Int32) from rfl]
          refine og_iald (g := 11) (i := 12) (j := 1) (v := (st.1 60 1)) hx hb hC hP (ow_q11_12) rfl (by unfold vp_in; decide) rfl rfl dX4_wrong_109 ?_
          refine lv_aload_n hx hb dX4_wrong_110 rfl (lv_at hl 3 rfl) ?_
          refine lv_iload_n hx hb dX4_wrong_111 rfl (lv_at hl 4 rfl) ?_
          refine lv_iconst (v := 2) hx hb dX4_wrong_112 (by decide) ?_
          refine lv_iadd hx hb dX4_wrong_113 ?_
          rw [show (0 : Int32) + 2 = (2 : Int32) from rfl]
          refine og_iald (g := 11) (i := 12) (j := 2) (v := (st.1 60 2)) hx hb hC hP (ow_q11_12) rfl (by unfold vp_in; decide) rfl rfl dX4_wrong_114 ?_
          refine lv_icmp_ne (tgt := 122) hx hb dX4_wrong_115 (by decide) (fun c_5 => ?_) (fun c_5 => ?_)
          · refine lv_bipush (v := (-4)) hx hb dX4_wrong_122 (by decide) ?_
            exact W.iret (v := (-4)) hx hb hr (fun t ht hW => ⟨⟨(-4), st, rfl, ⟨(by simp only [fX4_wrong_1_12, if_neg c_1, if_neg c_2, if_neg c_3, if_neg c_4, if_neg c_5]), rfl⟩, ow_Bi ht hP⟩, hS.F ht⟩) hS.2.2 dX4_wrong_124
          · refine lv_iconst (v := 2) hx hb dX4_wrong_118 (by decide) ?_
            refine lv_goto (tgt := 124) hx hb dX4_wrong_119 (by decide) ?_
            exact W.iret (v := 2) hx hb hr (fun t ht hW => ⟨⟨2, st, rfl, ⟨(by simp only [fX4_wrong_1_12, if_neg c_1, if_neg c_2, if_neg c_3, if_neg c_4, if_pos c_5]), rfl⟩, ow_Bi ht hP⟩, hS.F ht⟩) hS.2.2 dX4_wrong_124
        · refine lv_iconst (v := 3) hx hb dX4_wrong_101 (by decide) ?_
          refine lv_goto (tgt := 124) hx hb dX4_wrong_102 (by decide) ?_
          exact W.iret (v := 3) hx hb hr (fun t ht hW => ⟨⟨3, st, rfl, ⟨(by simp only [fX4_wrong_1_12, if_neg c_1, if_neg c_2, if_neg c_3, if_pos c_4]), rfl⟩, ow_Bi ht hP⟩, hS.F ht⟩) hS.2.2 dX4_wrong_124
      · refine lv_iload hx hb dX4_wrong_78 (lv_at hl 0 rfl) ?_
        exact W.iret (v := 2) hx hb hr (fun t ht hW => ⟨⟨2, st, rfl, ⟨(by simp only [fX4_wrong_1_12, if_neg c_1, if_neg c_2, if_pos c_3]), rfl⟩, ow_Bi ht hP⟩, hS.F ht⟩) hS.2.2 dX4_wrong_80
    · refine lv_iload hx hb dX4_wrong_78 (lv_at hl 0 rfl) ?_
      exact W.iret (v := 1) hx hb hr (fun t ht hW => ⟨⟨1, st, rfl, ⟨(by simp only [fX4_wrong_1_12, if_neg c_1, if_pos c_2]), rfl⟩, ow_Bi ht hP⟩, hS.F ht⟩) hS.2.2 dX4_wrong_80
  · refine lv_iconst (v := 0) hx hb dX4_wrong_7 (by decide) ?_
    exact W.iret (v := 0) hx hb hr (fun t ht hW => ⟨⟨0, st, rfl, ⟨(by simp only [fX4_wrong_1_12, if_pos c_1]), rfl⟩, ow_Bi ht hP⟩, hS.F ht⟩) hS.2.2 dX4_wrong_8

theorem lk_X4_take_9_0 : (.fieldLink RX4 66 "RecordLabelsModel" "latest" "I" : Cond) ∈ wsX4_take := by decide +kernel
theorem li_X4_take_9_X4 : ∀ w ∈ u_ws RX4 TX4 19, w ∈ wsX4_take := by decide +kernel
theorem lk_X4_take_9_2 : (.fieldLink RX4 70 "RecordLabelsModel" "parts" "[I" : Cond) ∈ wsX4_take := by decide +kernel
def fX4_take_9 (st : ow_St) (x1 x3 : Int32) : ow_St := (let st1 := (ow_si st 61 2 x1); (let st2 := (ow_si st1 58 0 (st1.1 57 ((x3 + 0).toNatClampNeg))); (let st3 := (ow_si st2 58 1 (st2.1 57 ((x3 + 1).toNatClampNeg))); (let st4 := (ow_si st3 58 2 (st3.1 57 ((x3 + 2).toNatClampNeg))); (let st5 := (ow_si st4 58 3 (st4.1 57 ((x3 + 3).toNatClampNeg))); st5)))))
set_option maxHeartbeats 4000000 in
set_option maxRecDepth 100000 in
theorem kX4_take_9 (l : Launch) (D : va_G) (ca : Nat → ClassId) (ad : ow_Ad) (A : Nat → Prop) (st : ow_St) (x1 : Int32) (x3 : Int32) (hat : ∃ a, a + 3 < 240 ∧ x3 = nI a) : Met l yX4_take wsX4_take ({ frames := 0, cells := 0, slots := 0, locals := 0 }) (va_Pc [.ref (ad 10 0), .int x1, .ref (ad 11 9), .int x3] (ow_W D ca ad A st)) (va_Qv (fun st' => st' = (fX4_take_9 st x1 x3)) (ow_B D ca ad) A) 0 0 A := by
  refine Met.ofW (cc := cX4_take) (maxL := 5) (ret := none) (by decide) rfl ?_
  intro p e s m args below meth c s₁ B hml hv
  obtain ⟨rfl, hP, hC⟩ := hv
  have hx := B.exec
  have hb := B.bytes
  have hr := B.returns
  have hts := atoms_spec (ws := wsX4_take) B.pre
  have hown : s.vm.findClass RX4 = some m.cls := findClass_of_methodNamed B.named
  have hlocks := B.notSynchronized
  have hS : va_S A s.heap s.heap [] := va_S.rf
  have hl := lv_entry ([.ref (ad 10 0), .int x1, .ref (ad 11 9), .int x3]) (n := 5) (Nat.le_of_ble_eq_true rfl)
  rw [lg_entry_eq]
  generalize (lg_sl ([.ref (ad 10 0), .int x1, .ref (ad 11 9), .int x3]) ++ List.replicate (5 - (lg_sl ([.ref (ad 10 0), .int x1, .ref (ad 11 9), .int x3])).length) Slot.unset).toArray = ls at hl ⊢
  have hl : lv_has ls 5 [(0, .ref (ad 10 0)), (1, .int x1), (2, .ref (ad 11 9)), (3, .int x3)] := hl
  refine lv_aload_n hx hb dX4_take_0 rfl (lv_at hl 0 rfl) ?_
  refine lv_iload_n hx hb dX4_take_1 rfl (lv_at hl 1 rfl) ?_
  refine og_put (C := RX4) (T := TX4) (N := 19) (g := 10) (i := 0) (v := .int x1) (ty := .int) hx hb hts li_X4_take_9_X4 tyX4 tyX4_ok nmX4 hown hC hP hS (ow_q10_0) rfl rfl 13 (by decide) (hts _ lk_X4_take_9_0) rfl rfl (by decide +kernel) rfl rfl (Nat.le_of_ble_eq_true rfl) (we_10_2 st x1) dX4_take_2 (fun H locs hP hS => ?_)
  obtain ⟨st1, e1⟩ : ∃ z, z = (ow_si st 61 2 x1) := ⟨_, rfl⟩
  rw [← e1] at hP
  refine lv_iconst (v := 0) hx hb dX4_take_5 (by decide) ?_
  refine lv_istore (lv' := [(4, .int 0), (0, .ref (ad 10 0)), (1, .int x1), (2, .ref (ad 11 9)), (3, .int x3)]) hx hb dX4_take_6 hl (by decide) rfl (fun ls hl => ?_)
  refine lv_iload hx hb dX4_take_8 (lv_at hl 0 rfl) ?_
  refine lv_iconst (v := 4) hx hb dX4_take_10 (by decide) ?_
  refine lv_icmp_ge (tgt := 33) hx hb dX4_take_11 (by decide) (fun c => absurd c (by decide)) (fun _ => ?_)
  refine lv_aload_n hx hb dX4_take_14 rfl (lv_at hl 1 rfl) ?_
  refine og_get (C := RX4) (T := TX4) (N := 19) (g := 10) (i := 0) (v := .ref (ad 11 10)) hx hb hts li_X4_take_9_X4 hown hC hP (ow_q10_0) rfl rfl 14 (by decide) (hts _ lk_X4_take_9_2) rfl rfl dX4_take_15 ?_
  refine lv_iload hx hb dX4_take_18 (lv_at hl 0 rfl) ?_
  refine lv_aload_n hx hb dX4_take_20 rfl (lv_at hl 3 rfl) ?_
  refine lv_iload_n hx hb dX4_take_21 rfl (lv_at hl 4 rfl) ?_
  refine lv_iload hx hb dX4_take_22 (lv_at hl 0 rfl) ?_
  refine lv_iadd hx hb dX4_take_24 ?_
  refine og_iald (g := 11) (i := 9) (j := ((x3 + 0).toNatClampNeg)) (v := (st1.1 57 ((x3 + 0).toNatClampNeg))) hx hb hC hP (ow_q11_9) rfl (at_in (d := 0) hat (by decide)) rfl rfl dX4_take_25 ?_
  refine og_iast (g := 11) (i := 10) (j := 0) (v := (st1.1 57 ((x3 + 0).toNatClampNeg))) hx hb hC hP hS (ow_q11_10) rfl (by unfold vp_in; decide) rfl (we_11_10 st1 0 (st1.1 57 ((x3 + 0).toNatClampNeg))) dX4_take_26 (fun H locs hP hS => ?_)
  obtain ⟨st2, e2⟩ : ∃ z, z = (ow_si st1 58 0 (st1.1 57 ((x3 + 0).toNatClampNeg))) := ⟨_, rfl⟩
  rw [← e2] at hP
  refine lv_iinc (v := 1) (lv' := [(4, .int 1), (0, .ref (ad 10 0)), (1, .int x1), (2, .ref (ad 11 9)), (3, .int x3)]) hx hb dX4_take_27 hl (k := 0) rfl (by decide) (by decide) rfl (fun ls hl => ?_)
  refine lv_goto (tgt := 8) hx hb dX4_take_30 (by decide) ?_
  refine lv_iload hx hb dX4_take_8 (lv_at hl 0 rfl) ?_
  refine lv_iconst (v := 4) hx hb dX4_take_10 (by decide) ?_
  refine lv_icmp_ge (tgt := 33) hx hb dX4_take_11 (by decide) (fun c => absurd c (by decide)) (fun _ => ?_)
  refine lv_aload_n hx hb dX4_take_14 rfl (lv_at hl 1 rfl) ?_
  refine og_get (C := RX4) (T := TX4) (N := 19) (g := 10) (i := 0) (v := .ref (ad 11 10)) hx hb hts li_X4_take_9_X4 hown hC hP (ow_q10_0) rfl rfl 14 (by decide) (hts _ lk_X4_take_9_2) rfl rfl dX4_take_15 ?_
  refine lv_iload hx hb dX4_take_18 (lv_at hl 0 rfl) ?_
  refine lv_aload_n hx hb dX4_take_20 rfl (lv_at hl 3 rfl) ?_
  refine lv_iload_n hx hb dX4_take_21 rfl (lv_at hl 4 rfl) ?_
  refine lv_iload hx hb dX4_take_22 (lv_at hl 0 rfl) ?_
  refine lv_iadd hx hb dX4_take_24 ?_
  refine og_iald (g := 11) (i := 9) (j := ((x3 + 1).toNatClampNeg)) (v := (st2.1 57 ((x3 + 1).toNatClampNeg))) hx hb hC hP (ow_q11_9) rfl (at_in (d := 1) hat (by decide)) rfl rfl dX4_take_25 ?_
  refine og_iast (g := 11) (i := 10) (j := 1) (v := (st2.1 57 ((x3 + 1).toNatClampNeg))) hx hb hC hP hS (ow_q11_10) rfl (by unfold vp_in; decide) rfl (we_11_10 st2 1 (st2.1 57 ((x3 + 1).toNatClampNeg))) dX4_take_26 (fun H locs hP hS => ?_)
  obtain ⟨st3, e3⟩ : ∃ z, z = (ow_si st2 58 1 (st2.1 57 ((x3 + 1).toNatClampNeg))) := ⟨_, rfl⟩
  rw [← e3] at hP
  refine lv_iinc (v := 2) (lv' := [(4, .int 2), (0, .ref (ad 10 0)), (1, .int x1), (2, .ref (ad 11 9)), (3, .int x3)]) hx hb dX4_take_27 hl (k := 0) rfl (by decide) (by decide) rfl (fun ls hl => ?_)
  refine lv_goto (tgt := 8) hx hb dX4_take_30 (by decide) ?_
  refine lv_iload hx hb dX4_take_8 (lv_at hl 0 rfl) ?_
  refine lv_iconst (v := 4) hx hb dX4_take_10 (by decide) ?_
  refine lv_icmp_ge (tgt := 33) hx hb dX4_take_11 (by decide) (fun c => absurd c (by decide)) (fun _ => ?_)
  refine lv_aload_n hx hb dX4_take_14 rfl (lv_at hl 1 rfl) ?_
  refine og_get (C := RX4) (T := TX4) (N := 19) (g := 10) (i := 0) (v := .ref (ad 11 10)) hx hb hts li_X4_take_9_X4 hown hC hP (ow_q10_0) rfl rfl 14 (by decide) (hts _ lk_X4_take_9_2) rfl rfl dX4_take_15 ?_
  refine lv_iload hx hb dX4_take_18 (lv_at hl 0 rfl) ?_
  refine lv_aload_n hx hb dX4_take_20 rfl (lv_at hl 3 rfl) ?_
  refine lv_iload_n hx hb dX4_take_21 rfl (lv_at hl 4 rfl) ?_
  refine lv_iload hx hb dX4_take_22 (lv_at hl 0 rfl) ?_
  refine lv_iadd hx hb dX4_take_24 ?_
  refine og_iald (g := 11) (i := 9) (j := ((x3 + 2).toNatClampNeg)) (v := (st3.1 57 ((x3 + 2).toNatClampNeg))) hx hb hC hP (ow_q11_9) rfl (at_in (d := 2) hat (by decide)) rfl rfl dX4_take_25 ?_
  refine og_iast (g := 11) (i := 10) (j := 2) (v := (st3.1 57 ((x3 + 2).toNatClampNeg))) hx hb hC hP hS (ow_q11_10) rfl (by unfold vp_in; decide) rfl (we_11_10 st3 2 (st3.1 57 ((x3 + 2).toNatClampNeg))) dX4_take_26 (fun H locs hP hS => ?_)
  obtain ⟨st4, e4⟩ : ∃ z, z = (ow_si st3 58 2 (st3.1 57 ((x3 + 2).toNatClampNeg))) := ⟨_, rfl⟩
  rw [← e4] at hP
  refine lv_iinc (v := 3) (lv' := [(4, .int 3), (0, .ref (ad 10 0)), (1, .int x1), (2, .ref (ad 11 9)), (3, .int x3)]) hx hb dX4_take_27 hl (k := 0) rfl (by decide) (by decide) rfl (fun ls hl => ?_)
  refine lv_goto (tgt := 8) hx hb dX4_take_30 (by decide) ?_
  refine lv_iload hx hb dX4_take_8 (lv_at hl 0 rfl) ?_
  refine lv_iconst (v := 4) hx hb dX4_take_10 (by decide) ?_
  refine lv_icmp_ge (tgt := 33) hx hb dX4_take_11 (by decide) (fun c => absurd c (by decide)) (fun _ => ?_)
  refine lv_aload_n hx hb dX4_take_14 rfl (lv_at hl 1 rfl) ?_
  refine og_get (C := RX4) (T := TX4) (N := 19) (g := 10) (i := 0) (v := .ref (ad 11 10)) hx hb hts li_X4_take_9_X4 hown hC hP (ow_q10_0) rfl rfl 14 (by decide) (hts _ lk_X4_take_9_2) rfl rfl dX4_take_15 ?_
  refine lv_iload hx hb dX4_take_18 (lv_at hl 0 rfl) ?_
  refine lv_aload_n hx hb dX4_take_20 rfl (lv_at hl 3 rfl) ?_
  refine lv_iload_n hx hb dX4_take_21 rfl (lv_at hl 4 rfl) ?_
  refine lv_iload hx hb dX4_take_22 (lv_at hl 0 rfl) ?_
  refine lv_iadd hx hb dX4_take_24 ?_
  refine og_iald (g := 11) (i := 9) (j := ((x3 + 3).toNatClampNeg)) (v := (st4.1 57 ((x3 + 3).toNatClampNeg))) hx hb hC hP (ow_q11_9) rfl (at_in (d := 3) hat (by decide)) rfl rfl dX4_take_25 ?_
  refine og_iast (g := 11) (i := 10) (j := 3) (v := (st4.1 57 ((x3 + 3).toNatClampNeg))) hx hb hC hP hS (ow_q11_10) rfl (by unfold vp_in; decide) rfl (we_11_10 st4 3 (st4.1 57 ((x3 + 3).toNatClampNeg))) dX4_take_26 (fun H locs hP hS => ?_)
  obtain ⟨st5, e5⟩ : ∃ z, z = (ow_si st4 58 3 (st4.1 57 ((x3 + 3).toNatClampNeg))) := ⟨_, rfl⟩
  rw [← e5] at hP
  refine lv_iinc (v := 4) (lv' := [(4, .int 4), (0, .ref (ad 10 0)), (1, .int x1), (2, .ref (ad 11 9)), (3, .int x3)]) hx hb dX4_take_27 hl (k := 0) rfl (by decide) (by decide) rfl (fun ls hl => ?_)
  refine lv_goto (tgt := 8) hx hb dX4_take_30 (by decide) ?_
  refine lv_iload hx hb dX4_take_8 (lv_at hl 0 rfl) ?_
  refine lv_iconst (v := 4) hx hb dX4_take_10 (by decide) ?_
  refine lv_icmp_ge (tgt := 33) hx hb dX4_take_11 (by decide) (fun _ => ?_) (fun c => absurd (by decide) c)
  exact W.vret hx hb hr (fun t ht hW => ⟨⟨st5, rfl, (by subst e5; subst e4; subst e3; subst e2; subst e1; simp only [fX4_take_9]), ow_Bi ht hP⟩, hS.F ht⟩) hS.2.2 dX4_take_33

theorem lk_X4_take_12_0 : (.fieldLink RX4 66 "RecordLabelsModel" "latest" "I" : Cond) ∈ wsX4_take := by decide +kernel
theorem li_X4_take_12_X4 : ∀ w ∈ u_ws RX4 TX4 19, w ∈ wsX4_take := by decide +kernel
theorem lk_X4_take_12_2 : (.fieldLink RX4 70 "RecordLabelsModel" "parts" "[I" : Cond) ∈ wsX4_take := by decide +kernel
def fX4_take_12 (st : ow_St) (x1 : Int32) : ow_St := (let st1 := (ow_si st 61 2 x1); (let st2 := (ow_si st1 58 0 (st1.1 60 0)); (let st3 := (ow_si st2 58 1 (st2.1 60 1)); (let st4 := (ow_si st3 58 2 (st3.1 60 2)); (let st5 := (ow_si st4 58 3 (st4.1 60 3)); st5)))))
set_option maxHeartbeats 4000000 in
set_option maxRecDepth 100000 in
theorem kX4_take_12 (l : Launch) (D : va_G) (ca : Nat → ClassId) (ad : ow_Ad) (A : Nat → Prop) (st : ow_St) (x1 : Int32) : Met l yX4_take wsX4_take ({ frames := 0, cells := 0, slots := 0, locals := 0 }) (va_Pc [.ref (ad 10 0), .int x1, .ref (ad 11 12), .int 0] (ow_W D ca ad A st)) (va_Qv (fun st' => st' = (fX4_take_12 st x1)) (ow_B D ca ad) A) 0 0 A := by
  refine Met.ofW (cc := cX4_take) (maxL := 5) (ret := none) (by decide) rfl ?_
  intro p e s m args below meth c s₁ B hml hv
  obtain ⟨rfl, hP, hC⟩ := hv
  have hx := B.exec
  have hb := B.bytes
  have hr := B.returns
  have hts := atoms_spec (ws := wsX4_take) B.pre
  have hown : s.vm.findClass RX4 = some m.cls := findClass_of_methodNamed B.named
  have hlocks := B.notSynchronized
  have hS : va_S A s.heap s.heap [] := va_S.rf
  have hl := lv_entry ([.ref (ad 10 0), .int x1, .ref (ad 11 12), .int 0]) (n := 5) (Nat.le_of_ble_eq_true rfl)
  rw [lg_entry_eq]
  generalize (lg_sl ([.ref (ad 10 0), .int x1, .ref (ad 11 12), .int 0]) ++ List.replicate (5 - (lg_sl ([.ref (ad 10 0), .int x1, .ref (ad 11 12), .int 0])).length) Slot.unset).toArray = ls at hl ⊢
  have hl : lv_has ls 5 [(0, .ref (ad 10 0)), (1, .int x1), (2, .ref (ad 11 12)), (3, .int 0)] := hl
  refine lv_aload_n hx hb dX4_take_0 rfl (lv_at hl 0 rfl) ?_
  refine lv_iload_n hx hb dX4_take_1 rfl (lv_at hl 1 rfl) ?_
  refine og_put (C := RX4) (T := TX4) (N := 19) (g := 10) (i := 0) (v := .int x1) (ty := .int) hx hb hts li_X4_take_12_X4 tyX4 tyX4_ok nmX4 hown hC hP hS (ow_q10_0) rfl rfl 13 (by decide) (hts _ lk_X4_take_12_0) rfl rfl (by decide +kernel) rfl rfl (Nat.le_of_ble_eq_true rfl) (we_10_2 st x1) dX4_take_2 (fun H locs hP hS => ?_)
  obtain ⟨st1, e1⟩ : ∃ z, z = (ow_si st 61 2 x1) := ⟨_, rfl⟩
  rw [← e1] at hP
  refine lv_iconst (v := 0) hx hb dX4_take_5 (by decide) ?_
  refine lv_istore (lv' := [(4, .int 0), (0, .ref (ad 10 0)), (1, .int x1), (2, .ref (ad 11 12)), (3, .int 0)]) hx hb dX4_take_6 hl (by decide) rfl (fun ls hl => ?_)
  refine lv_iload hx hb dX4_take_8 (lv_at hl 0 rfl) ?_
  refine lv_iconst (v := 4) hx hb dX4_take_10 (by decide) ?_
  refine lv_icmp_ge (tgt := 33) hx hb dX4_take_11 (by decide) (fun c => absurd c (by decide)) (fun _ => ?_)
  refine lv_aload_n hx hb dX4_take_14 rfl (lv_at hl 1 rfl) ?_
  refine og_get (C := RX4) (T := TX4) (N := 19) (g := 10) (i := 0) (v := .ref (ad 11 10)) hx hb hts li_X4_take_12_X4 hown hC hP (ow_q10_0) rfl rfl 14 (by decide) (hts _ lk_X4_take_12_2) rfl rfl dX4_take_15 ?_
  refine lv_iload hx hb dX4_take_18 (lv_at hl 0 rfl) ?_
  refine lv_aload_n hx hb dX4_take_20 rfl (lv_at hl 3 rfl) ?_
  refine lv_iload_n hx hb dX4_take_21 rfl (lv_at hl 4 rfl) ?_
  refine lv_iload hx hb dX4_take_22 (lv_at hl 0 rfl) ?_
  refine lv_iadd hx hb dX4_take_24 ?_
  rw [show (0 : Int32) + 0 = (0 : Int32) from rfl]
  refine og_iald (g := 11) (i := 12) (j := 0) (v := (st1.1 60 0)) hx hb hC hP (ow_q11_12) rfl (by unfold vp_in; decide) rfl rfl dX4_take_25 ?_
  refine og_iast (g := 11) (i := 10) (j := 0) (v := (st1.1 60 0)) hx hb hC hP hS (ow_q11_10) rfl (by unfold vp_in; decide) rfl (we_11_10 st1 0 (st1.1 60 0)) dX4_take_26 (fun H locs hP hS => ?_)
  obtain ⟨st2, e2⟩ : ∃ z, z = (ow_si st1 58 0 (st1.1 60 0)) := ⟨_, rfl⟩
  rw [← e2] at hP
  refine lv_iinc (v := 1) (lv' := [(4, .int 1), (0, .ref (ad 10 0)), (1, .int x1), (2, .ref (ad 11 12)), (3, .int 0)]) hx hb dX4_take_27 hl (k := 0) rfl (by decide) (by decide) rfl (fun ls hl => ?_)
  refine lv_goto (tgt := 8) hx hb dX4_take_30 (by decide) ?_
  refine lv_iload hx hb dX4_take_8 (lv_at hl 0 rfl) ?_
  refine lv_iconst (v := 4) hx hb dX4_take_10 (by decide) ?_
  refine lv_icmp_ge (tgt := 33) hx hb dX4_take_11 (by decide) (fun c => absurd c (by decide)) (fun _ => ?_)
  refine lv_aload_n hx hb dX4_take_14 rfl (lv_at hl 1 rfl) ?_
  refine og_get (C := RX4) (T := TX4) (N := 19) (g := 10) (i := 0) (v := .ref (ad 11 10)) hx hb hts li_X4_take_12_X4 hown hC hP (ow_q10_0) rfl rfl 14 (by decide) (hts _ lk_X4_take_12_2) rfl rfl dX4_take_15 ?_
  refine lv_iload hx hb dX4_take_18 (lv_at hl 0 rfl) ?_
  refine lv_aload_n hx hb dX4_take_20 rfl (lv_at hl 3 rfl) ?_
  refine lv_iload_n hx hb dX4_take_21 rfl (lv_at hl 4 rfl) ?_
  refine lv_iload hx hb dX4_take_22 (lv_at hl 0 rfl) ?_
  refine lv_iadd hx hb dX4_take_24 ?_
  rw [show (0 : Int32) + 1 = (1 : Int32) from rfl]
  refine og_iald (g := 11) (i := 12) (j := 1) (v := (st2.1 60 1)) hx hb hC hP (ow_q11_12) rfl (by unfold vp_in; decide) rfl rfl dX4_take_25 ?_
  refine og_iast (g := 11) (i := 10) (j := 1) (v := (st2.1 60 1)) hx hb hC hP hS (ow_q11_10) rfl (by unfold vp_in; decide) rfl (we_11_10 st2 1 (st2.1 60 1)) dX4_take_26 (fun H locs hP hS => ?_)
  obtain ⟨st3, e3⟩ : ∃ z, z = (ow_si st2 58 1 (st2.1 60 1)) := ⟨_, rfl⟩
  rw [← e3] at hP
  refine lv_iinc (v := 2) (lv' := [(4, .int 2), (0, .ref (ad 10 0)), (1, .int x1), (2, .ref (ad 11 12)), (3, .int 0)]) hx hb dX4_take_27 hl (k := 0) rfl (by decide) (by decide) rfl (fun ls hl => ?_)
  refine lv_goto (tgt := 8) hx hb dX4_take_30 (by decide) ?_
  refine lv_iload hx hb dX4_take_8 (lv_at hl 0 rfl) ?_
  refine lv_iconst (v := 4) hx hb dX4_take_10 (by decide) ?_
  refine lv_icmp_ge (tgt := 33) hx hb dX4_take_11 (by decide) (fun c => absurd c (by decide)) (fun _ => ?_)
  refine lv_aload_n hx hb dX4_take_14 rfl (lv_at hl 1 rfl) ?_
  refine og_get (C := RX4) (T := TX4) (N := 19) (g := 10) (i := 0) (v := .ref (ad 11 10)) hx hb hts li_X4_take_12_X4 hown hC hP (ow_q10_0) rfl rfl 14 (by decide) (hts _ lk_X4_take_12_2) rfl rfl dX4_take_15 ?_
  refine lv_iload hx hb dX4_take_18 (lv_at hl 0 rfl) ?_
  refine lv_aload_n hx hb dX4_take_20 rfl (lv_at hl 3 rfl) ?_
  refine lv_iload_n hx hb dX4_take_21 rfl (lv_at hl 4 rfl) ?_
  refine lv_iload hx hb dX4_take_22 (lv_at hl 0 rfl) ?_
  refine lv_iadd hx hb dX4_take_24 ?_
  rw [show (0 : Int32) + 2 = (2 : Int32) from rfl]
  refine og_iald (g := 11) (i := 12) (j := 2) (v := (st3.1 60 2)) hx hb hC hP (ow_q11_12) rfl (by unfold vp_in; decide) rfl rfl dX4_take_25 ?_
  refine og_iast (g := 11) (i := 10) (j := 2) (v := (st3.1 60 2)) hx hb hC hP hS (ow_q11_10) rfl (by unfold vp_in; decide) rfl (we_11_10 st3 2 (st3.1 60 2)) dX4_take_26 (fun H locs hP hS => ?_)
  obtain ⟨st4, e4⟩ : ∃ z, z = (ow_si st3 58 2 (st3.1 60 2)) := ⟨_, rfl⟩
  rw [← e4] at hP
  refine lv_iinc (v := 3) (lv' := [(4, .int 3), (0, .ref (ad 10 0)), (1, .int x1), (2, .ref (ad 11 12)), (3, .int 0)]) hx hb dX4_take_27 hl (k := 0) rfl (by decide) (by decide) rfl (fun ls hl => ?_)
  refine lv_goto (tgt := 8) hx hb dX4_take_30 (by decide) ?_
  refine lv_iload hx hb dX4_take_8 (lv_at hl 0 rfl) ?_
  refine lv_iconst (v := 4) hx hb dX4_take_10 (by decide) ?_
  refine lv_icmp_ge (tgt := 33) hx hb dX4_take_11 (by decide) (fun c => absurd c (by decide)) (fun _ => ?_)
  refine lv_aload_n hx hb dX4_take_14 rfl (lv_at hl 1 rfl) ?_
  refine og_get (C := RX4) (T := TX4) (N := 19) (g := 10) (i := 0) (v := .ref (ad 11 10)) hx hb hts li_X4_take_12_X4 hown hC hP (ow_q10_0) rfl rfl 14 (by decide) (hts _ lk_X4_take_12_2) rfl rfl dX4_take_15 ?_
  refine lv_iload hx hb dX4_take_18 (lv_at hl 0 rfl) ?_
  refine lv_aload_n hx hb dX4_take_20 rfl (lv_at hl 3 rfl) ?_
  refine lv_iload_n hx hb dX4_take_21 rfl (lv_at hl 4 rfl) ?_
  refine lv_iload hx hb dX4_take_22 (lv_at hl 0 rfl) ?_
  refine lv_iadd hx hb dX4_take_24 ?_
  rw [show (0 : Int32) + 3 = (3 : Int32) from rfl]
  refine og_iald (g := 11) (i := 12) (j := 3) (v := (st4.1 60 3)) hx hb hC hP (ow_q11_12) rfl (by unfold vp_in; decide) rfl rfl dX4_take_25 ?_
  refine og_iast (g := 11) (i := 10) (j := 3) (v := (st4.1 60 3)) hx hb hC hP hS (ow_q11_10) rfl (by unfold vp_in; decide) rfl (we_11_10 st4 3 (st4.1 60 3)) dX4_take_26 (fun H locs hP hS => ?_)
  obtain ⟨st5, e5⟩ : ∃ z, z = (ow_si st4 58 3 (st4.1 60 3)) := ⟨_, rfl⟩
  rw [← e5] at hP
  refine lv_iinc (v := 4) (lv' := [(4, .int 4), (0, .ref (ad 10 0)), (1, .int x1), (2, .ref (ad 11 12)), (3, .int 0)]) hx hb dX4_take_27 hl (k := 0) rfl (by decide) (by decide) rfl (fun ls hl => ?_)
  refine lv_goto (tgt := 8) hx hb dX4_take_30 (by decide) ?_
  refine lv_iload hx hb dX4_take_8 (lv_at hl 0 rfl) ?_
  refine lv_iconst (v := 4) hx hb dX4_take_10 (by decide) ?_
  refine lv_icmp_ge (tgt := 33) hx hb dX4_take_11 (by decide) (fun _ => ?_) (fun c => absurd (by decide) c)
  exact W.vret hx hb hr (fun t ht hW => ⟨⟨st5, rfl, (by subst e5; subst e4; subst e3; subst e2; subst e1; simp only [fX4_take_12]), ow_Bi ht hP⟩, hS.F ht⟩) hS.2.2 dX4_take_33

theorem tk_fr {st : ow_St} {x : Int32} {c i : Nat} (h : c ≠ 58) (h2 : c ≠ 61) : (fX4_take_12 st x).1 c i = st.1 c i := by
  unfold fX4_take_12
  simp only [ow_si_ne h, ow_si_ne h2]
theorem isc3 {st : ow_St} {x y : Int32} (h : ¬ fX4_isIn st x 0 y = 0) : ¬ x < 0 := Int32.not_lt.mpr (isIn_t h).1

theorem li_X4_isCell_0_X4 : ∀ w ∈ u_ws RX4 TX4 19, w ∈ wsX4_isCell := by decide +kernel
theorem lk_X4_isCell_0_1 : (.fieldLink RX4 60 "RecordLabelsModel" "records" "[I" : Cond) ∈ wsX4_isCell := by decide +kernel
def fX4_isCell_0 (st : ow_St) (x2 x3 : Int32) : Int32 := (if (fX4_isIn st x2 0 ((st.1 56 0) - 1)) = 0 then 0 else (if (fX4_isIn st x3 0 2) = 0 then 0 else 1))
set_option maxHeartbeats 4000000 in
set_option maxRecDepth 100000 in
theorem kX4_isCell_0 (l : Launch) (D : va_G) (ca : Nat → ClassId) (ad : ow_Ad) (A : Nat → Prop) (st : ow_St) (x2 : Int32) (x3 : Int32) : Met l yX4_isCell wsX4_isCell ({ frames := 1, cells := 0, slots := 0, locals := 22 }) (va_Pc [.ref (ad 10 0), .int 0, .int x2, .int x3] (ow_W D ca ad A st)) (va_Qi (fun r st' => r = (fX4_isCell_0 st x2 x3) ∧ st' = st) (ow_B D ca ad) A) 0 0 A := by
  refine Met.ofW (cc := cX4_isCell) (maxL := 4) (ret := (some .boolean)) (by decide) rfl ?_
  intro p e s m args below meth c s₁ B hml hv
  obtain ⟨rfl, hP, hC⟩ := hv
  have hx := B.exec
  have hb := B.bytes
  have hr := B.returns
  have hts := atoms_spec (ws := wsX4_isCell) B.pre
  have hown : s.vm.findClass RX4 = some m.cls := findClass_of_methodNamed B.named
  have hlocks := B.notSynchronized
  have hS : va_S A s.heap s.heap [] := va_S.rf
  have hl := lv_entry ([.ref (ad 10 0), .int 0, .int x2, .int x3]) (n := 4) (Nat.le_of_ble_eq_true rfl)
  rw [lg_entry_eq]
  generalize (lg_sl ([.ref (ad 10 0), .int 0, .int x2, .int x3]) ++ List.replicate (4 - (lg_sl ([.ref (ad 10 0), .int 0, .int x2, .int x3])).length) Slot.unset).toArray = ls at hl ⊢
  have hl : lv_has ls 4 [(0, .ref (ad 10 0)), (1, .int 0), (2, .int x2), (3, .int x3)] := hl
  refine lv_iload_n hx hb dX4_isCell_0 rfl (lv_at hl 1 rfl) ?_
  refine og_ciP (og_runS (As := [.int 0]) (rest := []) ⟨hx, hb, hml, hown, hts⟩ (kX4_isTable l D ca ad A st 0) (va_cwS 1 hts gX4_isCell_X4_isTable rfl rfl rfl (by decide +kernel) ⟨Nat.le_of_ble_eq_true rfl, Nat.le_of_ble_eq_true rfl⟩) hC hP hS rfl hl.1 rfl (Nat.le_of_ble_eq_true rfl) dX4_isCell_1 ⟨Nat.zero_le _, Nat.zero_le _⟩) hS (fun H locs hP hS => ?_)
  refine lv_if_eq (tgt := 41) hx hb dX4_isCell_4 (by decide) (fun c => absurd c isT_0) (fun _ => ?_)
  refine lv_iload_n hx hb dX4_isCell_7 rfl (lv_at hl 2 rfl) ?_
  refine lv_iconst (v := 0) hx hb dX4_isCell_8 (by decide) ?_
  refine lv_aload_n hx hb dX4_isCell_9 rfl (lv_at hl 0 rfl) ?_
  refine og_get (C := RX4) (T := TX4) (N := 19) (g := 10) (i := 0) (v := .ref (ad 11 8)) hx hb hts li_X4_isCell_0_X4 hown hC hP (ow_q10_0) rfl rfl 11 (by decide) (hts _ lk_X4_isCell_0_1) rfl rfl dX4_isCell_10 ?_
  refine lv_iload_n hx hb dX4_isCell_13 rfl (lv_at hl 1 rfl) ?_
  refine og_iald (g := 11) (i := 8) (j := 0) (v := (st.1 56 0)) hx hb hC hP (ow_q11_8) rfl (by unfold vp_in; decide) rfl rfl dX4_isCell_14 ?_
  refine lv_iconst (v := 1) hx hb dX4_isCell_15 (by decide) ?_
  refine lv_isub hx hb dX4_isCell_16 ?_
  refine og_ciP (og_runS (As := [.int x2, .int 0, .int ((st.1 56 0) - 1)]) (rest := []) ⟨hx, hb, hml, hown, hts⟩ (kX4_isIn l D ca ad A st x2 0 ((st.1 56 0) - 1)) (va_cwS 3 hts gX4_isCell_X4_isIn rfl rfl rfl (by decide +kernel) ⟨Nat.le_of_ble_eq_true rfl, Nat.le_of_ble_eq_true rfl⟩) hC hP hS rfl hl.1 rfl (Nat.le_of_ble_eq_true rfl) dX4_isCell_17 ⟨Nat.zero_le _, Nat.zero_le _⟩) hS (fun H locs hP hS => ?_)
  refine lv_if_eq (tgt := 41) hx hb dX4_isCell_20 (by decide) (fun c_1 => ?_) (fun c_1 => ?_)
  · refine lv_iconst (v := 0) hx hb dX4_isCell_41 (by decide) ?_
    exact W.zret (v := 0) hx hb hr rfl (fun t ht hW => ⟨⟨0, st, rfl, ⟨(by simp only [fX4_isCell_0, if_pos c_1]), rfl⟩, ow_Bi ht hP⟩, hS.F ht⟩) hS.2.2 dX4_isCell_42
  · refine lv_iload_n hx hb dX4_isCell_23 rfl (lv_at hl 3 rfl) ?_
    refine lv_iconst (v := 0) hx hb dX4_isCell_24 (by decide) ?_
    refine lv_iload_n hx hb dX4_isCell_25 rfl (lv_at hl 1 rfl) ?_
    refine og_ciP (F := 3) (og_runS (As := [.int 0]) (rest := [.int 0, .int x3]) ⟨hx, hb, hml, hown, hts⟩ (kX4_items_0 l D ca ad A st) (va_cwS 1 hts gX4_isCell_X4_items rfl rfl rfl (by decide +kernel) ⟨Nat.le_of_ble_eq_true rfl, Nat.le_of_ble_eq_true rfl⟩) hC hP hS rfl hl.1 rfl (Nat.le_of_ble_eq_true rfl) dX4_isCell_26 ⟨Nat.zero_le _, Nat.zero_le _⟩) hS (fun H locs hP hS => ?_)
    refine lv_iconst (v := 1) hx hb dX4_isCell_29 (by decide) ?_
    refine lv_isub hx hb dX4_isCell_30 ?_
    rw [show (3 : Int32) - 1 = (2 : Int32) from rfl]
    refine og_ciP (og_runS (As := [.int x3, .int 0, .int 2]) (rest := []) ⟨hx, hb, hml, hown, hts⟩ (kX4_isIn l D ca ad A st x3 0 2) (va_cwS 3 hts gX4_isCell_X4_isIn rfl rfl rfl (by decide +kernel) ⟨Nat.le_of_ble_eq_true rfl, Nat.le_of_ble_eq_true rfl⟩) hC hP hS rfl hl.1 rfl (Nat.le_of_ble_eq_true rfl) dX4_isCell_31 ⟨Nat.zero_le _, Nat.zero_le _⟩) hS (fun H locs hP hS => ?_)
    refine lv_if_eq (tgt := 41) hx hb dX4_isCell_34 (by decide) (fun c_2 => ?_) (fun c_2 => ?_)
    · refine lv_iconst (v := 0) hx hb dX4_isCell_41 (by decide) ?_
      exact W.zret (v := 0) hx hb hr rfl (fun t ht hW => ⟨⟨0, st, rfl, ⟨(by simp only [fX4_isCell_0, if_neg c_1, if_pos c_2]), rfl⟩, ow_Bi ht hP⟩, hS.F ht⟩) hS.2.2 dX4_isCell_42
    · refine lv_iconst (v := 1) hx hb dX4_isCell_37 (by decide) ?_
      refine lv_goto (tgt := 42) hx hb dX4_isCell_38 (by decide) ?_
      exact W.zret (v := 1) hx hb hr rfl (fun t ht hW => ⟨⟨1, st, rfl, ⟨(by simp only [fX4_isCell_0, if_neg c_1, if_neg c_2]), rfl⟩, ow_Bi ht hP⟩, hS.F ht⟩) hS.2.2 dX4_isCell_42

theorem li_X4_isCell_1_X4 : ∀ w ∈ u_ws RX4 TX4 19, w ∈ wsX4_isCell := by decide +kernel
theorem lk_X4_isCell_1_1 : (.fieldLink RX4 60 "RecordLabelsModel" "records" "[I" : Cond) ∈ wsX4_isCell := by decide +kernel
def fX4_isCell_1 (st : ow_St) (x2 x3 : Int32) : Int32 := (if (fX4_isIn st x2 0 ((st.1 56 1) - 1)) = 0 then 0 else (if (fX4_isIn st x3 0 3) = 0 then 0 else 1))
set_option maxHeartbeats 4000000 in
set_option maxRecDepth 100000 in
theorem kX4_isCell_1 (l : Launch) (D : va_G) (ca : Nat → ClassId) (ad : ow_Ad) (A : Nat → Prop) (st : ow_St) (x2 : Int32) (x3 : Int32) : Met l yX4_isCell wsX4_isCell ({ frames := 1, cells := 0, slots := 0, locals := 22 }) (va_Pc [.ref (ad 10 0), .int 1, .int x2, .int x3] (ow_W D ca ad A st)) (va_Qi (fun r st' => r = (fX4_isCell_1 st x2 x3) ∧ st' = st) (ow_B D ca ad) A) 0 0 A := by
  refine Met.ofW (cc := cX4_isCell) (maxL := 4) (ret := (some .boolean)) (by decide) rfl ?_
  intro p e s m args below meth c s₁ B hml hv
  obtain ⟨rfl, hP, hC⟩ := hv
  have hx := B.exec
  have hb := B.bytes
  have hr := B.returns
  have hts := atoms_spec (ws := wsX4_isCell) B.pre
  have hown : s.vm.findClass RX4 = some m.cls := findClass_of_methodNamed B.named
  have hlocks := B.notSynchronized
  have hS : va_S A s.heap s.heap [] := va_S.rf
  have hl := lv_entry ([.ref (ad 10 0), .int 1, .int x2, .int x3]) (n := 4) (Nat.le_of_ble_eq_true rfl)
  rw [lg_entry_eq]
  generalize (lg_sl ([.ref (ad 10 0), .int 1, .int x2, .int x3]) ++ List.replicate (4 - (lg_sl ([.ref (ad 10 0), .int 1, .int x2, .int x3])).length) Slot.unset).toArray = ls at hl ⊢
  have hl : lv_has ls 4 [(0, .ref (ad 10 0)), (1, .int 1), (2, .int x2), (3, .int x3)] := hl
  refine lv_iload_n hx hb dX4_isCell_0 rfl (lv_at hl 1 rfl) ?_
  refine og_ciP (og_runS (As := [.int 1]) (rest := []) ⟨hx, hb, hml, hown, hts⟩ (kX4_isTable l D ca ad A st 1) (va_cwS 1 hts gX4_isCell_X4_isTable rfl rfl rfl (by decide +kernel) ⟨Nat.le_of_ble_eq_true rfl, Nat.le_of_ble_eq_true rfl⟩) hC hP hS rfl hl.1 rfl (Nat.le_of_ble_eq_true rfl) dX4_isCell_1 ⟨Nat.zero_le _, Nat.zero_le _⟩) hS (fun H locs hP hS => ?_)
  refine lv_if_eq (tgt := 41) hx hb dX4_isCell_4 (by decide) (fun c => absurd c isT_1) (fun _ => ?_)
  refine lv_iload_n hx hb dX4_isCell_7 rfl (lv_at hl 2 rfl) ?_
  refine lv_iconst (v := 0) hx hb dX4_isCell_8 (by decide) ?_
  refine lv_aload_n hx hb dX4_isCell_9 rfl (lv_at hl 0 rfl) ?_
  refine og_get (C := RX4) (T := TX4) (N := 19) (g := 10) (i := 0) (v := .ref (ad 11 8)) hx hb hts li_X4_isCell_1_X4 hown hC hP (ow_q10_0) rfl rfl 11 (by decide) (hts _ lk_X4_isCell_1_1) rfl rfl dX4_isCell_10 ?_
  refine lv_iload_n hx hb dX4_isCell_13 rfl (lv_at hl 1 rfl) ?_
  refine og_iald (g := 11) (i := 8) (j := 1) (v := (st.1 56 1)) hx hb hC hP (ow_q11_8) rfl (by unfold vp_in; decide) rfl rfl dX4_isCell_14 ?_
  refine lv_iconst (v := 1) hx hb dX4_isCell_15 (by decide) ?_
  refine lv_isub hx hb dX4_isCell_16 ?_
  refine og_ciP (og_runS (As := [.int x2, .int 0, .int ((st.1 56 1) - 1)]) (rest := []) ⟨hx, hb, hml, hown, hts⟩ (kX4_isIn l D ca ad A st x2 0 ((st.1 56 1) - 1)) (va_cwS 3 hts gX4_isCell_X4_isIn rfl rfl rfl (by decide +kernel) ⟨Nat.le_of_ble_eq_true rfl, Nat.le_of_ble_eq_true rfl⟩) hC hP hS rfl hl.1 rfl (Nat.le_of_ble_eq_true rfl) dX4_isCell_17 ⟨Nat.zero_le _, Nat.zero_le _⟩) hS (fun H locs hP hS => ?_)
  refine lv_if_eq (tgt := 41) hx hb dX4_isCell_20 (by decide) (fun c_1 => ?_) (fun c_1 => ?_)
  · refine lv_iconst (v := 0) hx hb dX4_isCell_41 (by decide) ?_
    exact W.zret (v := 0) hx hb hr rfl (fun t ht hW => ⟨⟨0, st, rfl, ⟨(by simp only [fX4_isCell_1, if_pos c_1]), rfl⟩, ow_Bi ht hP⟩, hS.F ht⟩) hS.2.2 dX4_isCell_42
  · refine lv_iload_n hx hb dX4_isCell_23 rfl (lv_at hl 3 rfl) ?_
    refine lv_iconst (v := 0) hx hb dX4_isCell_24 (by decide) ?_
    refine lv_iload_n hx hb dX4_isCell_25 rfl (lv_at hl 1 rfl) ?_
    refine og_ciP (F := 4) (og_runS (As := [.int 1]) (rest := [.int 0, .int x3]) ⟨hx, hb, hml, hown, hts⟩ (kX4_items_1 l D ca ad A st) (va_cwS 1 hts gX4_isCell_X4_items rfl rfl rfl (by decide +kernel) ⟨Nat.le_of_ble_eq_true rfl, Nat.le_of_ble_eq_true rfl⟩) hC hP hS rfl hl.1 rfl (Nat.le_of_ble_eq_true rfl) dX4_isCell_26 ⟨Nat.zero_le _, Nat.zero_le _⟩) hS (fun H locs hP hS => ?_)
    refine lv_iconst (v := 1) hx hb dX4_isCell_29 (by decide) ?_
    refine lv_isub hx hb dX4_isCell_30 ?_
    rw [show (4 : Int32) - 1 = (3 : Int32) from rfl]
    refine og_ciP (og_runS (As := [.int x3, .int 0, .int 3]) (rest := []) ⟨hx, hb, hml, hown, hts⟩ (kX4_isIn l D ca ad A st x3 0 3) (va_cwS 3 hts gX4_isCell_X4_isIn rfl rfl rfl (by decide +kernel) ⟨Nat.le_of_ble_eq_true rfl, Nat.le_of_ble_eq_true rfl⟩) hC hP hS rfl hl.1 rfl (Nat.le_of_ble_eq_true rfl) dX4_isCell_31 ⟨Nat.zero_le _, Nat.zero_le _⟩) hS (fun H locs hP hS => ?_)
    refine lv_if_eq (tgt := 41) hx hb dX4_isCell_34 (by decide) (fun c_2 => ?_) (fun c_2 => ?_)
    · refine lv_iconst (v := 0) hx hb dX4_isCell_41 (by decide) ?_
      exact W.zret (v := 0) hx hb hr rfl (fun t ht hW => ⟨⟨0, st, rfl, ⟨(by simp only [fX4_isCell_1, if_neg c_1, if_pos c_2]), rfl⟩, ow_Bi ht hP⟩, hS.F ht⟩) hS.2.2 dX4_isCell_42
    · refine lv_iconst (v := 1) hx hb dX4_isCell_37 (by decide) ?_
      refine lv_goto (tgt := 42) hx hb dX4_isCell_38 (by decide) ?_
      exact W.zret (v := 1) hx hb hr rfl (fun t ht hW => ⟨⟨1, st, rfl, ⟨(by simp only [fX4_isCell_1, if_neg c_1, if_neg c_2]), rfl⟩, ow_Bi ht hP⟩, hS.F ht⟩) hS.2.2 dX4_isCell_42

def fX4_isCell_n (st : ow_St) (x1 x2 x3 : Int32) : Int32 := 0
set_option maxHeartbeats 4000000 in
set_option maxRecDepth 100000 in
theorem kX4_isCell_n (l : Launch) (D : va_G) (ca : Nat → ClassId) (ad : ow_Ad) (A : Nat → Prop) (st : ow_St) (x1 : Int32) (x2 : Int32) (x3 : Int32) (hn0 : ¬ x1 = 0) (hn1 : ¬ x1 = 1) : Met l yX4_isCell wsX4_isCell ({ frames := 1, cells := 0, slots := 0, locals := 20 }) (va_Pc [.ref (ad 10 0), .int x1, .int x2, .int x3] (ow_W D ca ad A st)) (va_Qi (fun r st' => r = (fX4_isCell_n st x1 x2 x3) ∧ st' = st) (ow_B D ca ad) A) 0 0 A := by
  refine Met.ofW (cc := cX4_isCell) (maxL := 4) (ret := (some .boolean)) (by decide) rfl ?_
  intro p e s m args below meth c s₁ B hml hv
  obtain ⟨rfl, hP, hC⟩ := hv
  have hx := B.exec
  have hb := B.bytes
  have hr := B.returns
  have hts := atoms_spec (ws := wsX4_isCell) B.pre
  have hown : s.vm.findClass RX4 = some m.cls := findClass_of_methodNamed B.named
  have hlocks := B.notSynchronized
  have hS : va_S A s.heap s.heap [] := va_S.rf
  have hl := lv_entry ([.ref (ad 10 0), .int x1, .int x2, .int x3]) (n := 4) (Nat.le_of_ble_eq_true rfl)
  rw [lg_entry_eq]
  generalize (lg_sl ([.ref (ad 10 0), .int x1, .int x2, .int x3]) ++ List.replicate (4 - (lg_sl ([.ref (ad 10 0), .int x1, .int x2, .int x3])).length) Slot.unset).toArray = ls at hl ⊢
  have hl : lv_has ls 4 [(0, .ref (ad 10 0)), (1, .int x1), (2, .int x2), (3, .int x3)] := hl
  refine lv_iload_n hx hb dX4_isCell_0 rfl (lv_at hl 1 rfl) ?_
  refine og_ciP (og_runS (As := [.int x1]) (rest := []) ⟨hx, hb, hml, hown, hts⟩ (kX4_isTable l D ca ad A st x1) (va_cwS 1 hts gX4_isCell_X4_isTable rfl rfl rfl (by decide +kernel) ⟨Nat.le_of_ble_eq_true rfl, Nat.le_of_ble_eq_true rfl⟩) hC hP hS rfl hl.1 rfl (Nat.le_of_ble_eq_true rfl) dX4_isCell_1 ⟨Nat.zero_le _, Nat.zero_le _⟩) hS (fun H locs hP hS => ?_)
  refine lv_if_eq (tgt := 41) hx hb dX4_isCell_4 (by decide) (fun _ => ?_) (fun c => absurd (isT_n hn0 hn1) c)
  refine lv_iconst (v := 0) hx hb dX4_isCell_41 (by decide) ?_
  exact W.zret (v := 0) hx hb hr rfl (fun t ht hW => ⟨⟨0, st, rfl, ⟨(by simp only [fX4_isCell_n]), rfl⟩, ow_Bi ht hP⟩, hS.F ht⟩) hS.2.2 dX4_isCell_42

theorem cel_0 {st : ow_St} {x y : Int32} (h : ¬ fX4_isCell_0 st x y = 0) : ¬ fX4_isIn st x 0 (st.1 56 0 - 1) = 0 ∧ ¬ fX4_isIn st y 0 2 = 0 := by
  unfold fX4_isCell_0 at h
  by_cases c1 : fX4_isIn st x 0 (st.1 56 0 - 1) = 0
  · rw [if_pos c1] at h
    exact absurd rfl h
  · rw [if_neg c1] at h
    refine ⟨c1, fun c2 => ?_⟩
    rw [if_pos c2] at h
    exact absurd rfl h
theorem rcx_0 {st : ow_St} {x y : Int32} (hz : iv_mz st 0) (h : ¬ fX4_isCell_0 st x y = 0) : ∃ a, a + 3 < 240 ∧ (0 + (4 * x)) = nI a := at_0 (rc_of hz (cel_0 h).1)
theorem ity_0 {st : ow_St} {x y : Int32} (h : ¬ fX4_isCell_0 st x y = 0) : ∃ d, d ≤ 3 ∧ y = nI d := itx_0 (cel_0 h).2


theorem cel_1 {st : ow_St} {x y : Int32} (h : ¬ fX4_isCell_1 st x y = 0) : ¬ fX4_isIn st x 0 (st.1 56 1 - 1) = 0 ∧ ¬ fX4_isIn st y 0 3 = 0 := by
  unfold fX4_isCell_1 at h
  by_cases c1 : fX4_isIn st x 0 (st.1 56 1 - 1) = 0
  · rw [if_pos c1] at h
    exact absurd rfl h
  · rw [if_neg c1] at h
    refine ⟨c1, fun c2 => ?_⟩
    rw [if_pos c2] at h
    exact absurd rfl h
theorem rcx_1 {st : ow_St} {x y : Int32} (hz : iv_mz st 1) (h : ¬ fX4_isCell_1 st x y = 0) : ∃ a, a + 3 < 240 ∧ (120 + (4 * x)) = nI a := at_1 (rc_of hz (cel_1 h).1)
theorem ity_1 {st : ow_St} {x y : Int32} (h : ¬ fX4_isCell_1 st x y = 0) : ∃ d, d ≤ 3 ∧ y = nI d := itx_1 (cel_1 h).2

def fX4_toldOf_0 (st : ow_St) (x2 x3 : Int32) : Int32 := (if (fX4_kindOf_0 st x2) = (-4) then x3 else (fX4_codeNow st (fX4_kindOf_0 st x2) x3))
set_option maxHeartbeats 4000000 in
set_option maxRecDepth 100000 in
theorem kX4_toldOf_0 (l : Launch) (D : va_G) (ca : Nat → ClassId) (ad : ow_Ad) (A : Nat → Prop) (st : ow_St) (x2 : Int32) (x3 : Int32) (h0 : x2 = 0 → ¬ x3 = (-1) → vp_in x3 5) (h2 : x2 = 2 → ¬ x3 = (-1) → vp_in x3 26) : Met l yX4_toldOf wsX4_toldOf ({ frames := 1, cells := 0, slots := 0, locals := 22 }) (va_Pc [.ref (ad 10 0), .int 0, .int x2, .int x3] (ow_W D ca ad A st)) (va_Qi (fun r st' => r = (fX4_toldOf_0 st x2 x3) ∧ st' = st) (ow_B D ca ad) A) 0 0 A := by
  refine Met.ofW (cc := cX4_toldOf) (maxL := 5) (ret := (some .int)) (by decide) rfl ?_
  intro p e s m args below meth c s₁ B hml hv
  obtain ⟨rfl, hP, hC⟩ := hv
  have hx := B.exec
  have hb := B.bytes
  have hr := B.returns
  have hts := atoms_spec (ws := wsX4_toldOf) B.pre
  have hown : s.vm.findClass RX4 = some m.cls := findClass_of_methodNamed B.named
  have hlocks := B.notSynchronized
  have hS : va_S A s.heap s.heap [] := va_S.rf
  have hl := lv_entry ([.ref (ad 10 0), .int 0, .int x2, .int x3]) (n := 5) (Nat.le_of_ble_eq_true rfl)
  rw [lg_entry_eq]
  generalize (lg_sl ([.ref (ad 10 0), .int 0, .int x2, .int x3]) ++ List.replicate (5 - (lg_sl ([.ref (ad 10 0), .int 0, .int x2, .int x3])).length) Slot.unset).toArray = ls at hl ⊢
  have hl : lv_has ls 5 [(0, .ref (ad 10 0)), (1, .int 0), (2, .int x2), (3, .int x3)] := hl
  refine lv_iload_n hx hb dX4_toldOf_0 rfl (lv_at hl 1 rfl) ?_
  refine lv_iload_n hx hb dX4_toldOf_1 rfl (lv_at hl 2 rfl) ?_
  refine og_ciP (og_runS (As := [.int 0, .int x2]) (rest := []) ⟨hx, hb, hml, hown, hts⟩ (kX4_kindOf_0 l D ca ad A st x2) (va_cwS 2 hts gX4_toldOf_X4_kindOf rfl rfl rfl (by decide +kernel) ⟨Nat.le_of_ble_eq_true rfl, Nat.le_of_ble_eq_true rfl⟩) hC hP hS rfl hl.1 rfl (Nat.le_of_ble_eq_true rfl) dX4_toldOf_2 ⟨Nat.zero_le _, Nat.zero_le _⟩) hS (fun H locs hP hS => ?_)
  refine lv_istore (lv' := [(4, .int (fX4_kindOf_0 st x2)), (0, .ref (ad 10 0)), (1, .int 0), (2, .int x2), (3, .int x3)]) hx hb dX4_toldOf_5 hl (by decide) rfl (fun ls hl => ?_)
  refine lv_iload hx hb dX4_toldOf_7 (lv_at hl 0 rfl) ?_
  refine lv_bipush (v := (-4)) hx hb dX4_toldOf_9 (by decide) ?_
  refine lv_icmp_ne (tgt := 18) hx hb dX4_toldOf_11 (by decide) (fun c_1 => ?_) (fun c_1 => ?_)
  · refine lv_aload_n hx hb dX4_toldOf_18 rfl (lv_at hl 1 rfl) ?_
    refine lv_iload hx hb dX4_toldOf_19 (lv_at hl 0 rfl) ?_
    refine lv_iload_n hx hb dX4_toldOf_21 rfl (lv_at hl 4 rfl) ?_
    refine og_ciP (og_runV (C := RX4) (T := TX4) (N := 19) (g := 10) (i := 0) (As := [.int (fX4_kindOf_0 st x2), .int x3]) (rest := []) ⟨hx, hb, hml, hown, hts⟩ (kX4_codeNow l D ca ad A st (fX4_kindOf_0 st x2) x3 (cn_0 c_1 h0 h2)) (cwV 2 hts gX4_toldOf_X4_codeNow rfl rfl rfl (by decide +kernel) ⟨Nat.le_of_ble_eq_true rfl, Nat.le_of_ble_eq_true rfl⟩) hC hP hS (ow_q10_0) rfl rfl rfl hl.1 rfl (Nat.le_of_ble_eq_true rfl) dX4_toldOf_22 ⟨Nat.zero_le _, Nat.zero_le _⟩) hS (fun H locs hP hS => ?_)
    exact W.iret (v := (fX4_codeNow st (fX4_kindOf_0 st x2) x3)) hx hb hr (fun t ht hW => ⟨⟨(fX4_codeNow st (fX4_kindOf_0 st x2) x3), st, rfl, ⟨(by simp only [fX4_toldOf_0, if_neg c_1]), rfl⟩, ow_Bi ht hP⟩, hS.F ht⟩) hS.2.2 dX4_toldOf_25
  · refine lv_iload_n hx hb dX4_toldOf_14 rfl (lv_at hl 4 rfl) ?_
    refine lv_goto (tgt := 25) hx hb dX4_toldOf_15 (by decide) ?_
    exact W.iret (v := x3) hx hb hr (fun t ht hW => ⟨⟨x3, st, rfl, ⟨(by simp only [fX4_toldOf_0, if_pos c_1]), rfl⟩, ow_Bi ht hP⟩, hS.F ht⟩) hS.2.2 dX4_toldOf_25

def fX4_toldOf_1 (st : ow_St) (x2 x3 : Int32) : Int32 := (if (fX4_kindOf_1 st x2) = (-4) then x3 else (fX4_codeNow st (fX4_kindOf_1 st x2) x3))
set_option maxHeartbeats 4000000 in
set_option maxRecDepth 100000 in
theorem kX4_toldOf_1 (l : Launch) (D : va_G) (ca : Nat → ClassId) (ad : ow_Ad) (A : Nat → Prop) (st : ow_St) (x2 : Int32) (x3 : Int32) (h0 : x2 = 0 → ¬ x3 = (-1) → vp_in x3 7) : Met l yX4_toldOf wsX4_toldOf ({ frames := 1, cells := 0, slots := 0, locals := 22 }) (va_Pc [.ref (ad 10 0), .int 1, .int x2, .int x3] (ow_W D ca ad A st)) (va_Qi (fun r st' => r = (fX4_toldOf_1 st x2 x3) ∧ st' = st) (ow_B D ca ad) A) 0 0 A := by
  refine Met.ofW (cc := cX4_toldOf) (maxL := 5) (ret := (some .int)) (by decide) rfl ?_
  intro p e s m args below meth c s₁ B hml hv
  obtain ⟨rfl, hP, hC⟩ := hv
  have hx := B.exec
  have hb := B.bytes
  have hr := B.returns
  have hts := atoms_spec (ws := wsX4_toldOf) B.pre
  have hown : s.vm.findClass RX4 = some m.cls := findClass_of_methodNamed B.named
  have hlocks := B.notSynchronized
  have hS : va_S A s.heap s.heap [] := va_S.rf
  have hl := lv_entry ([.ref (ad 10 0), .int 1, .int x2, .int x3]) (n := 5) (Nat.le_of_ble_eq_true rfl)
  rw [lg_entry_eq]
  generalize (lg_sl ([.ref (ad 10 0), .int 1, .int x2, .int x3]) ++ List.replicate (5 - (lg_sl ([.ref (ad 10 0), .int 1, .int x2, .int x3])).length) Slot.unset).toArray = ls at hl ⊢
  have hl : lv_has ls 5 [(0, .ref (ad 10 0)), (1, .int 1), (2, .int x2), (3, .int x3)] := hl
  refine lv_iload_n hx hb dX4_toldOf_0 rfl (lv_at hl 1 rfl) ?_
  refine lv_iload_n hx hb dX4_toldOf_1 rfl (lv_at hl 2 rfl) ?_
  refine og_ciP (og_runS (As := [.int 1, .int x2]) (rest := []) ⟨hx, hb, hml, hown, hts⟩ (kX4_kindOf_1 l D ca ad A st x2) (va_cwS 2 hts gX4_toldOf_X4_kindOf rfl rfl rfl (by decide +kernel) ⟨Nat.le_of_ble_eq_true rfl, Nat.le_of_ble_eq_true rfl⟩) hC hP hS rfl hl.1 rfl (Nat.le_of_ble_eq_true rfl) dX4_toldOf_2 ⟨Nat.zero_le _, Nat.zero_le _⟩) hS (fun H locs hP hS => ?_)
  refine lv_istore (lv' := [(4, .int (fX4_kindOf_1 st x2)), (0, .ref (ad 10 0)), (1, .int 1), (2, .int x2), (3, .int x3)]) hx hb dX4_toldOf_5 hl (by decide) rfl (fun ls hl => ?_)
  refine lv_iload hx hb dX4_toldOf_7 (lv_at hl 0 rfl) ?_
  refine lv_bipush (v := (-4)) hx hb dX4_toldOf_9 (by decide) ?_
  refine lv_icmp_ne (tgt := 18) hx hb dX4_toldOf_11 (by decide) (fun c_1 => ?_) (fun c_1 => ?_)
  · refine lv_aload_n hx hb dX4_toldOf_18 rfl (lv_at hl 1 rfl) ?_
    refine lv_iload hx hb dX4_toldOf_19 (lv_at hl 0 rfl) ?_
    refine lv_iload_n hx hb dX4_toldOf_21 rfl (lv_at hl 4 rfl) ?_
    refine og_ciP (og_runV (C := RX4) (T := TX4) (N := 19) (g := 10) (i := 0) (As := [.int (fX4_kindOf_1 st x2), .int x3]) (rest := []) ⟨hx, hb, hml, hown, hts⟩ (kX4_codeNow l D ca ad A st (fX4_kindOf_1 st x2) x3 (cn_1 c_1 h0)) (cwV 2 hts gX4_toldOf_X4_codeNow rfl rfl rfl (by decide +kernel) ⟨Nat.le_of_ble_eq_true rfl, Nat.le_of_ble_eq_true rfl⟩) hC hP hS (ow_q10_0) rfl rfl rfl hl.1 rfl (Nat.le_of_ble_eq_true rfl) dX4_toldOf_22 ⟨Nat.zero_le _, Nat.zero_le _⟩) hS (fun H locs hP hS => ?_)
    exact W.iret (v := (fX4_codeNow st (fX4_kindOf_1 st x2) x3)) hx hb hr (fun t ht hW => ⟨⟨(fX4_codeNow st (fX4_kindOf_1 st x2) x3), st, rfl, ⟨(by simp only [fX4_toldOf_1, if_neg c_1]), rfl⟩, ow_Bi ht hP⟩, hS.F ht⟩) hS.2.2 dX4_toldOf_25
  · refine lv_iload_n hx hb dX4_toldOf_14 rfl (lv_at hl 4 rfl) ?_
    refine lv_goto (tgt := 25) hx hb dX4_toldOf_15 (by decide) ?_
    exact W.iret (v := x3) hx hb hr (fun t ht hW => ⟨⟨x3, st, rfl, ⟨(by simp only [fX4_toldOf_1, if_pos c_1]), rfl⟩, ow_Bi ht hP⟩, hS.F ht⟩) hS.2.2 dX4_toldOf_25
