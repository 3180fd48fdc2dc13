theorem mf_in {st : ow_St} {x : Int32} (h : iv_mf st) (h2 : ¬ fX4_isIn st x 0 (st.1 61 3 - 1) = 0) : vp_in x 30 := by
  obtain ⟨n, hn, e⟩ := h
  obtain ⟨a1, a2⟩ := isIn_t h2
  obtain ⟨j, hj, rfl⟩ := nI_of (Int32.not_lt.mpr a1)
  rw [e] at a2
  cases n with
  | zero => exact absurd a2 (by rw [show nI 0 - 1 = (-1 : Int32) from rfl]; exact fun q => nI_pos hj (Int32.lt_of_le_of_lt q (by decide)))
  | succ n =>
    rw [nI_pred] at a2
    have := (nI_leI hj (by omega)).mp a2
    exact vp_in_nI (by omega) (by decide)

theorem li_X4_code_X4 : ∀ w ∈ u_ws RX4 TX4 19, w ∈ wsX4_code := by decide +kernel
theorem lk_X4_code_1 : (.fieldLink RX4 7 "RecordLabelsModel" "many" "[I" : Cond) ∈ wsX4_code := by decide +kernel
theorem lk_X4_code_2 : (.fieldLink RX4 41 "RecordLabelsModel" "codeOf" "[I" : Cond) ∈ wsX4_code := by decide +kernel
def flX4_code (st : ow_St) (x1 : Int32) (x2 : Int64) : Nat → Nat → Int32
  | 0, _ => 0
  | n + 1, i => (if (ow_mny x1.toNatClampNeg) ≤ (nI i) then (-4) else (if (lg_cmp (fX4_nameOf st x1 (nI i)) x2) = 0 then (st.1 50 (((26 * x1) + (nI i)).toNatClampNeg)) else (flX4_code st x1 x2 n (i + 1)  )))
def fX4_code (st : ow_St) (x1 : Int32) (x2 : Int64) : Int32 := (if (fX4_isKind st x1) = 0 then (-1) else (flX4_code st x1 x2 ((mn x1.toNatClampNeg) + 1) 0  ))
set_option maxHeartbeats 4000000 in
set_option maxRecDepth 100000 in
theorem kX4_code (l : Launch) (D : va_G) (ca : Nat → ClassId) (ad : ow_Ad) (A : Nat → Prop) (st : ow_St) (x1 : Int32) (x2 : Int64) : Met l yX4_code wsX4_code ({ frames := 2, cells := 0, slots := 0, locals := 42 }) (va_Pc [.ref (ad 10 0), .int x1, .long x2] (ow_W D ca ad A st)) (va_Qi (fun r st' => r = (fX4_code st x1 x2) ∧ st' = st) (ow_B D ca ad) A) 0 0 A := by
  refine Met.ofW (cc := cX4_code) (maxL := 5) (ret := (some .int)) (by decide) rfl ?_
  intro p e s m args below meth c s₁ B hml hv
  obtain ⟨rfl, hP, hC⟩ := hv
  have hx := B.exec
  have hb := B.bytes
  have hr := B.returns
  have hts := atoms_spec (ws := wsX4_code) B.pre
  have hown : s.vm.findClass RX4 = some m.cls := findClass_of_methodNamed B.named
  have hlocks := B.notSynchronized
  have hS : va_S A s.heap s.heap [] := va_S.rf
  have hl := lv_entry ([.ref (ad 10 0), .int x1, .long x2]) (n := 5) (Nat.le_of_ble_eq_true rfl)
  rw [lg_entry_eq]
  generalize (lg_sl ([.ref (ad 10 0), .int x1, .long x2]) ++ List.replicate (5 - (lg_sl ([.ref (ad 10 0), .int x1, .long x2])).length) Slot.unset).toArray = ls at hl ⊢
  have hl : lv_has ls 5 [(0, .ref (ad 10 0)), (1, .int x1), (2, .long x2)] := hl
  refine lv_iload_n hx hb dX4_code_0 rfl (lv_at hl 1 rfl) ?_
  refine og_ciP (og_runS (As := [.int x1]) (rest := []) ⟨hx, hb, hml, hown, hts⟩ (kX4_isKind l D ca ad A st x1) (va_cwS 1 hts gX4_code_X4_isKind rfl rfl rfl (by decide +kernel) ⟨Nat.le_of_ble_eq_true rfl, Nat.le_of_ble_eq_true rfl⟩) hC hP hS rfl hl.1 rfl (Nat.le_of_ble_eq_true rfl) dX4_code_1 ⟨Nat.zero_le _, Nat.zero_le _⟩) hS (fun H locs hP hS => ?_)
  refine lv_if_ne (tgt := 9) hx hb dX4_code_4 (by decide) (fun c_1 => ?_) (fun c_1 => ?_)
  · refine lv_iconst (v := 0) hx hb dX4_code_9 (by decide) ?_
    refine lv_istore (lv' := [(4, .int 0), (0, .ref (ad 10 0)), (1, .int x1), (2, .long x2)]) hx hb dX4_code_10 hl (by decide) rfl (fun ls hl => ?_)
    have loop : ∀ (n i : Nat) (H : Heap) (locs : List Loc) (ls : Array Slot), i ≤ (mn x1.toNatClampNeg) → (mn x1.toNatClampNeg) < i + n → (vp_in x1 3) → flX4_code st x1 x2 n i = (fX4_code st x1 x2) → va_P D vwCl (ow_ws ad (ow_c ca ad st)) H → va_S A s.heap H locs → lv_has ls 5 [(4, .int (nI i)), (0, .ref (ad 10 0)), (1, .int x1), (2, .long x2)] → W p l e (headSpec wsX4_code ({ frames := 2, cells := 0, slots := 0, locals := 42 } : Room)).room s m ([.ref (ad 10 0), .int x1, .long x2] : List Value).toArray below meth c H locs 0 0 (MQ below (va_Qi (fun r st' => r = (fX4_code st x1 x2) ∧ st' = st) (ow_B D ca ad) A) ([.ref (ad 10 0), .int x1, .long x2] : List Value).toArray s 0 0 A) (F0 m 12 ls []) := by
      intro n
      induction n with
      | zero => intro i H locs ls h1 h2; exact absurd h2 (by omega)
      | succ n ih =>
        intro i H locs ls hle hlt hk3 heq hP hS hl
        refine lv_iload hx hb dX4_code_12 (lv_at hl 0 rfl) ?_
        refine lv_aload_n hx hb dX4_code_14 rfl (lv_at hl 1 rfl) ?_
        refine og_get (C := RX4) (T := TX4) (N := 19) (g := 10) (i := 0) (v := .ref (ad 11 0)) hx hb hts li_X4_code_X4 hown hC hP (ow_q10_0) rfl rfl 0 (by decide) (hts _ lk_X4_code_1) rfl rfl dX4_code_15 ?_
        refine lv_iload_n hx hb dX4_code_18 rfl (lv_at hl 2 rfl) ?_
        refine og_iald (g := 11) (i := 0) (j := x1.toNatClampNeg) (v := (ow_mny x1.toNatClampNeg)) hx hb hC hP (ow_q11_0) rfl hk3 rfl rfl dX4_code_19 ?_
        refine lv_icmp_ge (tgt := 54) hx hb dX4_code_20 (by decide) (fun c_2 => ?_) (fun c_2 => ?_)
        · refine lv_bipush (v := (-4)) hx hb dX4_code_54 (by decide) ?_
          exact W.iret (v := (-4)) hx hb hr (fun t ht hW => ⟨⟨(-4), st, rfl, ⟨(by rw [← heq]; simp only [flX4_code, if_pos c_2]), rfl⟩, ow_Bi ht hP⟩, hS.F ht⟩) hS.2.2 dX4_code_56
        · refine lv_aload_n hx hb dX4_code_23 rfl (lv_at hl 1 rfl) ?_
          refine lv_iload_n hx hb dX4_code_24 rfl (lv_at hl 2 rfl) ?_
          refine lv_iload hx hb dX4_code_25 (lv_at hl 0 rfl) ?_
          refine og_clP (og_runV (C := RX4) (T := TX4) (N := 19) (g := 10) (i := 0) (As := [.int x1, .int (nI i)]) (rest := []) ⟨hx, hb, hml, hown, hts⟩ (kX4_nameOf l D ca ad A st x1 (nI i) (nm_in hk3 (vp_in_nI (ow_lt (by rw [← mny_eq (vp_lt hk3)]; exact c_2) hle (ow_mn _)) (ow_mn _)))) (cwV 2 hts gX4_code_X4_nameOf rfl rfl rfl (by decide +kernel) ⟨Nat.le_of_ble_eq_true rfl, Nat.le_of_ble_eq_true rfl⟩) hC hP hS (ow_q10_0) rfl rfl rfl hl.1 rfl (Nat.le_of_ble_eq_true rfl) dX4_code_27 ⟨Nat.zero_le _, Nat.zero_le _⟩) hS (fun H locs hP hS => ?_)
          refine lv_lload_n hx hb dX4_code_30 rfl (lv_at hl 3 rfl) ?_
          refine W.lcmp hx hb dX4_code_31 ?_
          refine lv_if_ne (tgt := 48) hx hb dX4_code_32 (by decide) (fun c_3 => ?_) (fun c_3 => ?_)
          · refine lv_iinc (v := (nI (i + 1))) (lv' := [(4, .int (nI (i + 1))), (0, .ref (ad 10 0)), (1, .int x1), (2, .long x2)]) hx hb dX4_code_48 hl (k := 0) rfl (nI_1 _) (by decide) rfl (fun ls hl => ?_)
            refine lv_goto (tgt := 12) hx hb dX4_code_51 (by decide) ?_
            exact ih (i + 1)   _ _ _ (ow_lt (by rw [← mny_eq (vp_lt hk3)]; exact c_2) hle (ow_mn _)) (by omega) hk3 (by rw [← heq]; simp only [flX4_code, if_neg c_2, if_neg c_3]) hP hS (lv_sub hl [0, 1, 2, 3] rfl)
          · refine lv_aload_n hx hb dX4_code_35 rfl (lv_at hl 1 rfl) ?_
            refine og_get (C := RX4) (T := TX4) (N := 19) (g := 10) (i := 0) (v := .ref (ad 11 2)) hx hb hts li_X4_code_X4 hown hC hP (ow_q10_0) rfl rfl 2 (by decide) (hts _ lk_X4_code_2) rfl rfl dX4_code_36 ?_
            refine lv_bipush (v := 26) hx hb dX4_code_39 (by decide) ?_
            refine lv_iload_n hx hb dX4_code_41 rfl (lv_at hl 2 rfl) ?_
            refine lv_imul hx hb dX4_code_42 ?_
            refine lv_iload hx hb dX4_code_43 (lv_at hl 0 rfl) ?_
            refine lv_iadd hx hb dX4_code_45 ?_
            refine og_iald (g := 11) (i := 2) (j := (((26 * x1) + (nI i)).toNatClampNeg)) (v := (st.1 50 (((26 * x1) + (nI i)).toNatClampNeg))) hx hb hC hP (ow_q11_2) rfl (ix_in hk3 (vp_in_nI (ow_lt (by rw [← mny_eq (vp_lt hk3)]; exact c_2) hle (ow_mn _)) (ow_mn _))) rfl rfl dX4_code_46 ?_
            exact W.iret (v := (st.1 50 (((26 * x1) + (nI i)).toNatClampNeg))) hx hb hr (fun t ht hW => ⟨⟨(st.1 50 (((26 * x1) + (nI i)).toNatClampNeg)), st, rfl, ⟨(by rw [← heq]; simp only [flX4_code, if_neg c_2, if_pos c_3]), rfl⟩, ow_Bi ht hP⟩, hS.F ht⟩) hS.2.2 dX4_code_47
    exact loop ((mn x1.toNatClampNeg) + 1) 0   _ _ _ (Nat.zero_le _) (by omega) (isK_in c_1) (by simp only [fX4_code, if_neg c_1]) hP hS (lv_sub hl [0, 1, 2, 3] rfl)
  · refine lv_iconst (v := (-1)) hx hb dX4_code_7 (by decide) ?_
    exact W.iret (v := (-1)) hx hb hr (fun t ht hW => ⟨⟨(-1), st, rfl, ⟨(by simp only [fX4_code, if_pos c_1]), rfl⟩, ow_Bi ht hP⟩, hS.F ht⟩) hS.2.2 dX4_code_8

def fX4_name (st : ow_St) (x1 x2 : Int32) : Int64 := (if (fX4_isKind st x1) = 0 then 0 else (if (fX4_isCode st x1 x2) = 0 then 0 else (fX4_nameOf st x1 (fX4_constant st x1 x2))))
set_option maxHeartbeats 4000000 in
set_option maxRecDepth 100000 in
theorem kX4_name (l : Launch) (D : va_G) (ca : Nat → ClassId) (ad : ow_Ad) (A : Nat → Prop) (st : ow_St) (x1 : Int32) (x2 : Int32) (hm : iv_mc st) : Met l yX4_name wsX4_name ({ frames := 3, cells := 0, slots := 0, locals := 66 }) (va_Pc [.ref (ad 10 0), .int x1, .int x2] (ow_W D ca ad A st)) (va_Ql (fun r st' => r = (fX4_name st x1 x2) ∧ st' = st) (ow_B D ca ad) A) 0 0 A := by
  refine Met.ofW (cc := cX4_name) (maxL := 3) (ret := (some .long)) (by decide) rfl ?_
  intro p e s m args below meth c s₁ B hml hv
  obtain ⟨rfl, hP, hC⟩ := hv
  have hx := B.exec
  have hb := B.bytes
  have hr := B.returns
  have hts := atoms_spec (ws := wsX4_name) B.pre
  have hown : s.vm.findClass RX4 = some m.cls := findClass_of_methodNamed B.named
  have hlocks := B.notSynchronized
  have hS : va_S A s.heap s.heap [] := va_S.rf
  have hl := lv_entry ([.ref (ad 10 0), .int x1, .int x2]) (n := 3) (Nat.le_of_ble_eq_true rfl)
  rw [lg_entry_eq]
  generalize (lg_sl ([.ref (ad 10 0), .int x1, .int x2]) ++ List.replicate (3 - (lg_sl ([.ref (ad 10 0), .int x1, .int x2])).length) Slot.unset).toArray = ls at hl ⊢
  have hl : lv_has ls 3 [(0, .ref (ad 10 0)), (1, .int x1), (2, .int x2)] := hl
  refine lv_iload_n hx hb dX4_name_0 rfl (lv_at hl 1 rfl) ?_
  refine og_ciP (og_runS (As := [.int x1]) (rest := []) ⟨hx, hb, hml, hown, hts⟩ (kX4_isKind l D ca ad A st x1) (va_cwS 1 hts gX4_name_X4_isKind rfl rfl rfl (by decide +kernel) ⟨Nat.le_of_ble_eq_true rfl, Nat.le_of_ble_eq_true rfl⟩) hC hP hS rfl hl.1 rfl (Nat.le_of_ble_eq_true rfl) dX4_name_1 ⟨Nat.zero_le _, Nat.zero_le _⟩) hS (fun H locs hP hS => ?_)
  refine lv_if_eq (tgt := 30) hx hb dX4_name_4 (by decide) (fun c_1 => ?_) (fun c_1 => ?_)
  · refine lv_lconst (v := 0) hx hb dX4_name_30 rfl ?_
    exact W.lret (v := 0) hx hb hr (fun t ht hW => ⟨⟨0, st, rfl, ⟨(by simp only [fX4_name, if_pos c_1]), rfl⟩, ow_Bi ht hP⟩, hS.F ht⟩) hS.2.2 dX4_name_31
  · refine lv_aload_n hx hb dX4_name_7 rfl (lv_at hl 0 rfl) ?_
    refine lv_iload_n hx hb dX4_name_8 rfl (lv_at hl 1 rfl) ?_
    refine lv_iload_n hx hb dX4_name_9 rfl (lv_at hl 2 rfl) ?_
    refine og_ciP (og_runV (C := RX4) (T := TX4) (N := 19) (g := 10) (i := 0) (As := [.int x1, .int x2]) (rest := []) ⟨hx, hb, hml, hown, hts⟩ (kX4_isCode l D ca ad A st x1 x2 (isK_in c_1)) (cwV 2 hts gX4_name_X4_isCode rfl rfl rfl (by decide +kernel) ⟨Nat.le_of_ble_eq_true rfl, Nat.le_of_ble_eq_true rfl⟩) hC hP hS (ow_q10_0) rfl rfl rfl hl.1 rfl (Nat.le_of_ble_eq_true rfl) dX4_name_10 ⟨Nat.zero_le _, Nat.zero_le _⟩) hS (fun H locs hP hS => ?_)
    refine lv_if_eq (tgt := 30) hx hb dX4_name_13 (by decide) (fun c_2 => ?_) (fun c_2 => ?_)
    · refine lv_lconst (v := 0) hx hb dX4_name_30 rfl ?_
      exact W.lret (v := 0) hx hb hr (fun t ht hW => ⟨⟨0, st, rfl, ⟨(by simp only [fX4_name, if_neg c_1, if_pos c_2]), rfl⟩, ow_Bi ht hP⟩, hS.F ht⟩) hS.2.2 dX4_name_31
    · refine lv_aload_n hx hb dX4_name_16 rfl (lv_at hl 0 rfl) ?_
      refine lv_iload_n hx hb dX4_name_17 rfl (lv_at hl 1 rfl) ?_
      refine lv_aload_n hx hb dX4_name_18 rfl (lv_at hl 0 rfl) ?_
      refine lv_iload_n hx hb dX4_name_19 rfl (lv_at hl 1 rfl) ?_
      refine lv_iload_n hx hb dX4_name_20 rfl (lv_at hl 2 rfl) ?_
      refine og_ciP (og_runV (C := RX4) (T := TX4) (N := 19) (g := 10) (i := 0) (As := [.int x1, .int x2]) (rest := [.int x1, .ref (ad 10 0)]) ⟨hx, hb, hml, hown, hts⟩ (kX4_constant l D ca ad A st x1 x2 (isK_in c_1)) (cwV 2 hts gX4_name_X4_constant rfl rfl rfl (by decide +kernel) ⟨Nat.le_of_ble_eq_true rfl, Nat.le_of_ble_eq_true rfl⟩) hC hP hS (ow_q10_0) rfl rfl rfl hl.1 rfl (Nat.le_of_ble_eq_true rfl) dX4_name_21 ⟨Nat.zero_le _, Nat.zero_le _⟩) hS (fun H locs hP hS => ?_)
      refine og_clP (og_runV (C := RX4) (T := TX4) (N := 19) (g := 10) (i := 0) (As := [.int x1, .int (fX4_constant st x1 x2)]) (rest := []) ⟨hx, hb, hml, hown, hts⟩ (kX4_nameOf l D ca ad A st x1 (fX4_constant st x1 x2) (nm_in (isK_in c_1) (con_in (isK_in c_1) hm c_2))) (cwV 2 hts gX4_name_X4_nameOf rfl rfl rfl (by decide +kernel) ⟨Nat.le_of_ble_eq_true rfl, Nat.le_of_ble_eq_true rfl⟩) hC hP hS (ow_q10_0) rfl rfl rfl hl.1 rfl (Nat.le_of_ble_eq_true rfl) dX4_name_24 ⟨Nat.zero_le _, Nat.zero_le _⟩) hS (fun H locs hP hS => ?_)
      refine lv_goto (tgt := 31) hx hb dX4_name_27 (by decide) ?_
      exact W.lret (v := (fX4_nameOf st x1 (fX4_constant st x1 x2))) hx hb hr (fun t ht hW => ⟨⟨(fX4_nameOf st x1 (fX4_constant st x1 x2)), st, rfl, ⟨(by simp only [fX4_name, if_neg c_1, if_neg c_2]), rfl⟩, ow_Bi ht hP⟩, hS.F ht⟩) hS.2.2 dX4_name_31

theorem li_X4_swap_X4 : ∀ w ∈ u_ws RX4 TX4 19, w ∈ wsX4_swap := by decide +kernel
theorem lk_X4_swap_1 : (.fieldLink RX4 41 "RecordLabelsModel" "codeOf" "[I" : Cond) ∈ wsX4_swap := by decide +kernel
theorem lk_X4_swap_2 : (.fieldLink RX4 44 "RecordLabelsModel" "constantOf" "[I" : Cond) ∈ wsX4_swap := by decide +kernel
def fX4_swap (st : ow_St) (x1 x2 x3 : Int32) : Int32 × ow_St := (if (fX4_isKind st x1) = 0 then ((-1), st) else (if (fX4_isCode st x1 x2) = 0 then ((-1), st) else (if (fX4_isCode st x1 x3) = 0 then ((-1), st) else (let st4 := (ow_si st 50 (((26 * x1) + (fX4_constant st x1 x2)).toNatClampNeg) x3); (let st5 := (ow_si st4 50 (((26 * x1) + (fX4_constant st x1 x3)).toNatClampNeg) x2); (let st6 := (ow_si st5 51 (((26 * x1) + x2).toNatClampNeg) (fX4_constant st x1 x3)); (let st7 := (ow_si st6 51 (((26 * x1) + x3).toNatClampNeg) (fX4_constant st x1 x2)); (1, st7))))))))
set_option maxHeartbeats 4000000 in
set_option maxRecDepth 100000 in
theorem kX4_swap (l : Launch) (D : va_G) (ca : Nat → ClassId) (ad : ow_Ad) (A : Nat → Prop) (st : ow_St) (x1 : Int32) (x2 : Int32) (x3 : Int32) (hm : iv_mc st) : Met l yX4_swap wsX4_swap ({ frames := 3, cells := 0, slots := 0, locals := 66 }) (va_Pc [.ref (ad 10 0), .int x1, .int x2, .int x3] (ow_W D ca ad A st)) (va_Qi (fun r st' => (r, st') = (fX4_swap st x1 x2 x3)) (ow_B D ca ad) A) 0 0 A := by
  refine Met.ofW (cc := cX4_swap) (maxL := 6) (ret := (some .int)) (by decide) rfl ?_
  intro p e s m args below meth c s₁ B hml hv
  obtain ⟨rfl, hP, hC⟩ := hv
  have hx := B.exec
  have hb := B.bytes
  have hr := B.returns
  have hts := atoms_spec (ws := wsX4_swap) B.pre
  have hown : s.vm.findClass RX4 = some m.cls := findClass_of_methodNamed B.named
  have hlocks := B.notSynchronized
  have hS : va_S A s.heap s.heap [] := va_S.rf
  have hl := lv_entry ([.ref (ad 10 0), .int x1, .int x2, .int x3]) (n := 6) (Nat.le_of_ble_eq_true rfl)
  rw [lg_entry_eq]
  generalize (lg_sl ([.ref (ad 10 0), .int x1, .int x2, .int x3]) ++ List.replicate (6 - (lg_sl ([.ref (ad 10 0), .int x1, .int x2, .int x3])).length) Slot.unset).toArray = ls at hl ⊢
  have hl : lv_has ls 6 [(0, .ref (ad 10 0)), (1, .int x1), (2, .int x2), (3, .int x3)] := hl
  refine lv_iload_n hx hb dX4_swap_0 rfl (lv_at hl 1 rfl) ?_
  refine og_ciP (og_runS (As := [.int x1]) (rest := []) ⟨hx, hb, hml, hown, hts⟩ (kX4_isKind l D ca ad A st x1) (va_cwS 1 hts gX4_swap_X4_isKind rfl rfl rfl (by decide +kernel) ⟨Nat.le_of_ble_eq_true rfl, Nat.le_of_ble_eq_true rfl⟩) hC hP hS rfl hl.1 rfl (Nat.le_of_ble_eq_true rfl) dX4_swap_1 ⟨Nat.zero_le _, Nat.zero_le _⟩) hS (fun H locs hP hS => ?_)
  refine lv_if_eq (tgt := 25) hx hb dX4_swap_4 (by decide) (fun c_1 => ?_) (fun c_1 => ?_)
  · refine lv_iconst (v := (-1)) hx hb dX4_swap_25 (by decide) ?_
    exact W.iret (v := (-1)) hx hb hr (fun t ht hW => ⟨⟨(-1), st, rfl, (by simp only [fX4_swap, if_pos c_1]), ow_Bi ht hP⟩, hS.F ht⟩) hS.2.2 dX4_swap_26
  · refine lv_aload_n hx hb dX4_swap_7 rfl (lv_at hl 0 rfl) ?_
    refine lv_iload_n hx hb dX4_swap_8 rfl (lv_at hl 1 rfl) ?_
    refine lv_iload_n hx hb dX4_swap_9 rfl (lv_at hl 2 rfl) ?_
    refine og_ciP (og_runV (C := RX4) (T := TX4) (N := 19) (g := 10) (i := 0) (As := [.int x1, .int x2]) (rest := []) ⟨hx, hb, hml, hown, hts⟩ (kX4_isCode l D ca ad A st x1 x2 (isK_in c_1)) (cwV 2 hts gX4_swap_X4_isCode rfl rfl rfl (by decide +kernel) ⟨Nat.le_of_ble_eq_true rfl, Nat.le_of_ble_eq_true rfl⟩) hC hP hS (ow_q10_0) rfl rfl rfl hl.1 rfl (Nat.le_of_ble_eq_true rfl) dX4_swap_10 ⟨Nat.zero_le _, Nat.zero_le _⟩) hS (fun H locs hP hS => ?_)
    refine lv_if_eq (tgt := 25) hx hb dX4_swap_13 (by decide) (fun c_2 => ?_) (fun c_2 => ?_)
    · refine lv_iconst (v := (-1)) hx hb dX4_swap_25 (by decide) ?_
      exact W.iret (v := (-1)) hx hb hr (fun t ht hW => ⟨⟨(-1), st, rfl, (by simp only [fX4_swap, if_neg c_1, if_pos c_2]), ow_Bi ht hP⟩, hS.F ht⟩) hS.2.2 dX4_swap_26
    · refine lv_aload_n hx hb dX4_swap_16 rfl (lv_at hl 0 rfl) ?_
      refine lv_iload_n hx hb dX4_swap_17 rfl (lv_at hl 1 rfl) ?_
      refine lv_iload_n hx hb dX4_swap_18 rfl (lv_at hl 3 rfl) ?_
      refine og_ciP (og_runV (C := RX4) (T := TX4) (N := 19) (g := 10) (i := 0) (As := [.int x1, .int x3]) (rest := []) ⟨hx, hb, hml, hown, hts⟩ (kX4_isCode l D ca ad A st x1 x3 (isK_in c_1)) (cwV 2 hts gX4_swap_X4_isCode rfl rfl rfl (by decide +kernel) ⟨Nat.le_of_ble_eq_true rfl, Nat.le_of_ble_eq_true rfl⟩) hC hP hS (ow_q10_0) rfl rfl rfl hl.1 rfl (Nat.le_of_ble_eq_true rfl) dX4_swap_19 ⟨Nat.zero_le _, Nat.zero_le _⟩) hS (fun H locs hP hS => ?_)
      refine lv_if_ne (tgt := 27) hx hb dX4_swap_22 (by decide) (fun c_3 => ?_) (fun c_3 => ?_)
      · refine lv_aload_n hx hb dX4_swap_27 rfl (lv_at hl 0 rfl) ?_
        refine lv_iload_n hx hb dX4_swap_28 rfl (lv_at hl 1 rfl) ?_
        refine lv_iload_n hx hb dX4_swap_29 rfl (lv_at hl 2 rfl) ?_
        refine og_ciP (og_runV (C := RX4) (T := TX4) (N := 19) (g := 10) (i := 0) (As := [.int x1, .int x2]) (rest := []) ⟨hx, hb, hml, hown, hts⟩ (kX4_constant l D ca ad A st x1 x2 (isK_in c_1)) (cwV 2 hts gX4_swap_X4_constant rfl rfl rfl (by decide +kernel) ⟨Nat.le_of_ble_eq_true rfl, Nat.le_of_ble_eq_true rfl⟩) hC hP hS (ow_q10_0) rfl rfl rfl hl.1 rfl (Nat.le_of_ble_eq_true rfl) dX4_swap_30 ⟨Nat.zero_le _, Nat.zero_le _⟩) hS (fun H locs hP hS => ?_)
        refine lv_istore (lv' := [(4, .int (fX4_constant st x1 x2)), (0, .ref (ad 10 0)), (1, .int x1), (2, .int x2), (3, .int x3)]) hx hb dX4_swap_33 hl (by decide) rfl (fun ls hl => ?_)
        refine lv_aload_n hx hb dX4_swap_35 rfl (lv_at hl 1 rfl) ?_
        refine lv_iload_n hx hb dX4_swap_36 rfl (lv_at hl 2 rfl) ?_
        refine lv_iload_n hx hb dX4_swap_37 rfl (lv_at hl 4 rfl) ?_
        refine og_ciP (og_runV (C := RX4) (T := TX4) (N := 19) (g := 10) (i := 0) (As := [.int x1, .int x3]) (rest := []) ⟨hx, hb, hml, hown, hts⟩ (kX4_constant l D ca ad A st x1 x3 (isK_in c_1)) (cwV 2 hts gX4_swap_X4_constant rfl rfl rfl (by decide +kernel) ⟨Nat.le_of_ble_eq_true rfl, Nat.le_of_ble_eq_true rfl⟩) hC hP hS (ow_q10_0) rfl rfl rfl hl.1 rfl (Nat.le_of_ble_eq_true rfl) dX4_swap_38 ⟨Nat.zero_le _, Nat.zero_le _⟩) hS (fun H locs hP hS => ?_)
        refine lv_istore (lv' := [(5, .int (fX4_constant st x1 x3)), (4, .int (fX4_constant st x1 x2)), (0, .ref (ad 10 0)), (1, .int x1), (2, .int x2), (3, .int x3)]) hx hb dX4_swap_41 hl (by decide) rfl (fun ls hl => ?_)
        refine lv_aload_n hx hb dX4_swap_43 rfl (lv_at hl 2 rfl) ?_
        refine og_get (C := RX4) (T := TX4) (N := 19) (g := 10) (i := 0) (v := .ref (ad 11 2)) hx hb hts li_X4_swap_X4 hown hC hP (ow_q10_0) rfl rfl 2 (by decide) (hts _ lk_X4_swap_1) rfl rfl dX4_swap_44 ?_
        refine lv_bipush (v := 26) hx hb dX4_swap_47 (by decide) ?_
        refine lv_iload_n hx hb dX4_swap_49 rfl (lv_at hl 3 rfl) ?_
        refine lv_imul hx hb dX4_swap_50 ?_
        refine lv_iload hx hb dX4_swap_51 (lv_at hl 1 rfl) ?_
        refine lv_iadd hx hb dX4_swap_53 ?_
        refine lv_iload_n hx hb dX4_swap_54 rfl (lv_at hl 5 rfl) ?_
        refine og_iast (g := 11) (i := 2) (j := (((26 * x1) + (fX4_constant st x1 x2)).toNatClampNeg)) (v := x3) hx hb hC hP hS (ow_q11_2) rfl (ix_in (isK_in c_1) (con_in (isK_in c_1) hm c_2)) rfl (we_11_2 st (((26 * x1) + (fX4_constant st x1 x2)).toNatClampNeg) x3) dX4_swap_55 (fun H locs hP hS => ?_)
        obtain ⟨st4, e4⟩ : ∃ z, z = (ow_si st 50 (((26 * x1) + (fX4_constant st x1 x2)).toNatClampNeg) x3) := ⟨_, rfl⟩
        rw [← e4] at hP
        refine lv_aload_n hx hb dX4_swap_56 rfl (lv_at hl 2 rfl) ?_
        refine og_get (C := RX4) (T := TX4) (N := 19) (g := 10) (i := 0) (v := .ref (ad 11 2)) hx hb hts li_X4_swap_X4 hown hC hP (ow_q10_0) rfl rfl 2 (by decide) (hts _ lk_X4_swap_1) rfl rfl dX4_swap_57 ?_
        refine lv_bipush (v := 26) hx hb dX4_swap_60 (by decide) ?_
        refine lv_iload_n hx hb dX4_swap_62 rfl (lv_at hl 3 rfl) ?_
        refine lv_imul hx hb dX4_swap_63 ?_
        refine lv_iload hx hb dX4_swap_64 (lv_at hl 0 rfl) ?_
        refine lv_iadd hx hb dX4_swap_66 ?_
        refine lv_iload_n hx hb dX4_swap_67 rfl (lv_at hl 4 rfl) ?_
        refine og_iast (g := 11) (i := 2) (j := (((26 * x1) + (fX4_constant st x1 x3)).toNatClampNeg)) (v := x2) hx hb hC hP hS (ow_q11_2) rfl (ix_in (isK_in c_1) (con_in (isK_in c_1) hm c_3)) rfl (we_11_2 st4 (((26 * x1) + (fX4_constant st x1 x3)).toNatClampNeg) x2) dX4_swap_68 (fun H locs hP hS => ?_)
        obtain ⟨st5, e5⟩ : ∃ z, z = (ow_si st4 50 (((26 * x1) + (fX4_constant st x1 x3)).toNatClampNeg) x2) := ⟨_, rfl⟩
        rw [← e5] at hP
        refine lv_aload_n hx hb dX4_swap_69 rfl (lv_at hl 2 rfl) ?_
        refine og_get (C := RX4) (T := TX4) (N := 19) (g := 10) (i := 0) (v := .ref (ad 11 3)) hx hb hts li_X4_swap_X4 hown hC hP (ow_q10_0) rfl rfl 3 (by decide) (hts _ lk_X4_swap_2) rfl rfl dX4_swap_70 ?_
        refine lv_bipush (v := 26) hx hb dX4_swap_73 (by decide) ?_
        refine lv_iload_n hx hb dX4_swap_75 rfl (lv_at hl 3 rfl) ?_
        refine lv_imul hx hb dX4_swap_76 ?_
        refine lv_iload_n hx hb dX4_swap_77 rfl (lv_at hl 4 rfl) ?_
        refine lv_iadd hx hb dX4_swap_78 ?_
        refine lv_iload hx hb dX4_swap_79 (lv_at hl 0 rfl) ?_
        refine og_iast (g := 11) (i := 3) (j := (((26 * x1) + x2).toNatClampNeg)) (v := (fX4_constant st x1 x3)) hx hb hC hP hS (ow_q11_3) rfl (ix_in (isK_in c_1) (isC_in (isK_in c_1) c_2)) rfl (we_11_3 st5 (((26 * x1) + x2).toNatClampNeg) (fX4_constant st x1 x3)) dX4_swap_81 (fun H locs hP hS => ?_)
        obtain ⟨st6, e6⟩ : ∃ z, z = (ow_si st5 51 (((26 * x1) + x2).toNatClampNeg) (fX4_constant st x1 x3)) := ⟨_, rfl⟩
        rw [← e6] at hP
        refine lv_aload_n hx hb dX4_swap_82 rfl (lv_at hl 2 rfl) ?_
        refine og_get (C := RX4) (T := TX4) (N := 19) (g := 10) (i := 0) (v := .ref (ad 11 3)) hx hb hts li_X4_swap_X4 hown hC hP (ow_q10_0) rfl rfl 3 (by decide) (hts _ lk_X4_swap_2) rfl rfl dX4_swap_83 ?_
        refine lv_bipush (v := 26) hx hb dX4_swap_86 (by decide) ?_
        refine lv_iload_n hx hb dX4_swap_88 rfl (lv_at hl 3 rfl) ?_
        refine lv_imul hx hb dX4_swap_89 ?_
        refine lv_iload_n hx hb dX4_swap_90 rfl (lv_at hl 5 rfl) ?_
        refine lv_iadd hx hb dX4_swap_91 ?_
        refine lv_iload hx hb dX4_swap_92 (lv_at hl 1 rfl) ?_
        refine og_iast (g := 11) (i := 3) (j := (((26 * x1) + x3).toNatClampNeg)) (v := (fX4_constant st x1 x2)) hx hb hC hP hS (ow_q11_3) rfl (ix_in (isK_in c_1) (isC_in (isK_in c_1) c_3)) rfl (we_11_3 st6 (((26 * x1) + x3).toNatClampNeg) (fX4_constant st x1 x2)) dX4_swap_94 (fun H locs hP hS => ?_)
        obtain ⟨st7, e7⟩ : ∃ z, z = (ow_si st6 51 (((26 * x1) + x3).toNatClampNeg) (fX4_constant st x1 x2)) := ⟨_, rfl⟩
        rw [← e7] at hP
        refine lv_iconst (v := 1) hx hb dX4_swap_95 (by decide) ?_
        exact W.iret (v := 1) hx hb hr (fun t ht hW => ⟨⟨1, st7, rfl, (by subst e7; subst e6; subst e5; subst e4; simp only [fX4_swap, if_neg c_1, if_neg c_2, if_neg c_3]), ow_Bi ht hP⟩, hS.F ht⟩) hS.2.2 dX4_swap_96
      · refine lv_iconst (v := (-1)) hx hb dX4_swap_25 (by decide) ?_
        exact W.iret (v := (-1)) hx hb hr (fun t ht hW => ⟨⟨(-1), st, rfl, (by simp only [fX4_swap, if_neg c_1, if_neg c_2, if_pos c_3]), ow_Bi ht hP⟩, hS.F ht⟩) hS.2.2 dX4_swap_26

theorem li_X4_rule_X4 : ∀ w ∈ u_ws RX4 TX4 19, w ∈ wsX4_rule := by decide +kernel
theorem lk_X4_rule_1 : (.fieldLink RX4 101 "RecordLabelsModel" "came" "J" : Cond) ∈ wsX4_rule := by decide +kernel
theorem lk_X4_rule_2 : (.fieldLink RX4 127 "RecordLabelsModel" "result" "J" : Cond) ∈ wsX4_rule := by decide +kernel
def fX4_rule (st : ow_St) (x1 x2 : Int32) (x3 : Int64) : Int32 × ow_St := (if (fX4_isKind st x1) = 0 then ((-1), st) else (if (fX4_isCode st x1 x2) = 0 then ((-1), st) else (let st3 := (fX4_begin st x1).2; (if (fX4_begin st x1).1 = 0 then (let st5 := (fX4_works st3 x1 (fX4_constant st3 x1 x2) x3).2; (if (fX4_works st3 x1 (fX4_constant st3 x1 x2) x3).1 = 1 then (let st7 := (ow_sl st5 1 (st5.2.1 2)); ((fX4_works st3 x1 (fX4_constant st3 x1 x2) x3).1, st7)) else (let st8 := (ow_sl st5 1 (st5.2.1 1)); ((fX4_works st3 x1 (fX4_constant st3 x1 x2) x3).1, st8)))) else ((fX4_begin st x1).1, st3)))))
set_option maxHeartbeats 4000000 in
set_option maxRecDepth 100000 in
theorem kX4_rule (l : Launch) (D : va_G) (ca : Nat → ClassId) (ad : ow_Ad) (A : Nat → Prop) (st : ow_St) (x1 : Int32) (x2 : Int32) (x3 : Int64) : Met l yX4_rule wsX4_rule ({ frames := 3, cells := 0, slots := 0, locals := 66 }) (va_Pc [.ref (ad 10 0), .int x1, .int x2, .long x3] (ow_W D ca ad A st)) (va_Qi (fun r st' => (r, st') = (fX4_rule st x1 x2 x3)) (ow_B D ca ad) A) 0 0 A := by
  refine Met.ofW (cc := cX4_rule) (maxL := 7) (ret := (some .int)) (by decide) rfl ?_
  intro p e s m args below meth c s₁ B hml hv
  obtain ⟨rfl, hP, hC⟩ := hv
  have hx := B.exec
  have hb := B.bytes
  have hr := B.returns
  have hts := atoms_spec (ws := wsX4_rule) B.pre
  have hown : s.vm.findClass RX4 = some m.cls := findClass_of_methodNamed B.named
  have hlocks := B.notSynchronized
  have hS : va_S A s.heap s.heap [] := va_S.rf
  have hl := lv_entry ([.ref (ad 10 0), .int x1, .int x2, .long x3]) (n := 7) (Nat.le_of_ble_eq_true rfl)
  rw [lg_entry_eq]
  generalize (lg_sl ([.ref (ad 10 0), .int x1, .int x2, .long x3]) ++ List.replicate (7 - (lg_sl ([.ref (ad 10 0), .int x1, .int x2, .long x3])).length) Slot.unset).toArray = ls at hl ⊢
  have hl : lv_has ls 7 [(0, .ref (ad 10 0)), (1, .int x1), (2, .int x2), (3, .long x3)] := hl
  refine lv_iload_n hx hb dX4_rule_0 rfl (lv_at hl 1 rfl) ?_
  refine og_ciP (og_runS (As := [.int x1]) (rest := []) ⟨hx, hb, hml, hown, hts⟩ (kX4_isKind l D ca ad A st x1) (va_cwS 1 hts gX4_rule_X4_isKind rfl rfl rfl (by decide +kernel) ⟨Nat.le_of_ble_eq_true rfl, Nat.le_of_ble_eq_true rfl⟩) hC hP hS rfl hl.1 rfl (Nat.le_of_ble_eq_true rfl) dX4_rule_1 ⟨Nat.zero_le _, Nat.zero_le _⟩) hS (fun H locs hP hS => ?_)
  refine lv_if_eq (tgt := 16) hx hb dX4_rule_4 (by decide) (fun c_1 => ?_) (fun c_1 => ?_)
  · refine lv_iconst (v := (-1)) hx hb dX4_rule_16 (by decide) ?_
    exact W.iret (v := (-1)) hx hb hr (fun t ht hW => ⟨⟨(-1), st, rfl, (by simp only [fX4_rule, if_pos c_1]), ow_Bi ht hP⟩, hS.F ht⟩) hS.2.2 dX4_rule_17
  · refine lv_aload_n hx hb dX4_rule_7 rfl (lv_at hl 0 rfl) ?_
    refine lv_iload_n hx hb dX4_rule_8 rfl (lv_at hl 1 rfl) ?_
    refine lv_iload_n hx hb dX4_rule_9 rfl (lv_at hl 2 rfl) ?_
    refine og_ciP (og_runV (C := RX4) (T := TX4) (N := 19) (g := 10) (i := 0) (As := [.int x1, .int x2]) (rest := []) ⟨hx, hb, hml, hown, hts⟩ (kX4_isCode l D ca ad A st x1 x2 (isK_in c_1)) (cwV 2 hts gX4_rule_X4_isCode rfl rfl rfl (by decide +kernel) ⟨Nat.le_of_ble_eq_true rfl, Nat.le_of_ble_eq_true rfl⟩) hC hP hS (ow_q10_0) rfl rfl rfl hl.1 rfl (Nat.le_of_ble_eq_true rfl) dX4_rule_10 ⟨Nat.zero_le _, Nat.zero_le _⟩) hS (fun H locs hP hS => ?_)
    refine lv_if_ne (tgt := 18) hx hb dX4_rule_13 (by decide) (fun c_2 => ?_) (fun c_2 => ?_)
    · refine lv_aload_n hx hb dX4_rule_18 rfl (lv_at hl 0 rfl) ?_
      refine lv_iload_n hx hb dX4_rule_19 rfl (lv_at hl 1 rfl) ?_
      refine og_ciW (og_runV (C := RX4) (T := TX4) (N := 19) (g := 10) (i := 0) (As := [.int x1]) (rest := []) ⟨hx, hb, hml, hown, hts⟩ (kX4_begin l D ca ad A st x1 (isK_in c_1)) (cwV 1 hts gX4_rule_X4_begin rfl rfl rfl (by decide +kernel) ⟨Nat.le_of_ble_eq_true rfl, Nat.le_of_ble_eq_true rfl⟩) hC hP hS (ow_q10_0) rfl rfl rfl hl.1 rfl (Nat.le_of_ble_eq_true rfl) dX4_rule_20 ⟨Nat.zero_le _, Nat.zero_le _⟩) hS (fun H locs hP hS => ?_)
      obtain ⟨st3, e3⟩ : ∃ z, z = (fX4_begin st x1).2 := ⟨_, rfl⟩
      rw [← e3] at hP
      refine lv_istore (lv' := [(5, .int ((fX4_begin st x1).1)), (0, .ref (ad 10 0)), (1, .int x1), (2, .int x2), (3, .long x3)]) hx hb dX4_rule_23 hl (by decide) rfl (fun ls hl => ?_)
      refine lv_iload hx hb dX4_rule_25 (lv_at hl 0 rfl) ?_
      refine lv_if_eq (tgt := 33) hx hb dX4_rule_27 (by decide) (fun c_4 => ?_) (fun c_4 => ?_)
      · refine lv_aload_n hx hb dX4_rule_33 rfl (lv_at hl 1 rfl) ?_
        refine lv_iload_n hx hb dX4_rule_34 rfl (lv_at hl 2 rfl) ?_
        refine lv_aload_n hx hb dX4_rule_35 rfl (lv_at hl 1 rfl) ?_
        refine lv_iload_n hx hb dX4_rule_36 rfl (lv_at hl 2 rfl) ?_
        refine lv_iload_n hx hb dX4_rule_37 rfl (lv_at hl 3 rfl) ?_
        refine og_ciP (og_runV (C := RX4) (T := TX4) (N := 19) (g := 10) (i := 0) (As := [.int x1, .int x2]) (rest := [.int x1, .ref (ad 10 0)]) ⟨hx, hb, hml, hown, hts⟩ (kX4_constant l D ca ad A st3 x1 x2 (isK_in c_1)) (cwV 2 hts gX4_rule_X4_constant rfl rfl rfl (by decide +kernel) ⟨Nat.le_of_ble_eq_true rfl, Nat.le_of_ble_eq_true rfl⟩) hC hP hS (ow_q10_0) rfl rfl rfl hl.1 rfl (Nat.le_of_ble_eq_true rfl) dX4_rule_38 ⟨Nat.zero_le _, Nat.zero_le _⟩) hS (fun H locs hP hS => ?_)
        refine lv_lload_n hx hb dX4_rule_41 rfl (lv_at hl 4 rfl) ?_
        refine og_ciW (og_runV (C := RX4) (T := TX4) (N := 19) (g := 10) (i := 0) (As := [.int x1, .int (fX4_constant st3 x1 x2), .long x3]) (rest := []) ⟨hx, hb, hml, hown, hts⟩ (kX4_works l D ca ad A st3 x1 (fX4_constant st3 x1 x2) x3) (cwV 3 hts gX4_rule_X4_works rfl rfl rfl (by decide +kernel) ⟨Nat.le_of_ble_eq_true rfl, Nat.le_of_ble_eq_true rfl⟩) hC hP hS (ow_q10_0) rfl rfl rfl hl.1 rfl (Nat.le_of_ble_eq_true rfl) dX4_rule_42 ⟨Nat.zero_le _, Nat.zero_le _⟩) hS (fun H locs hP hS => ?_)
        obtain ⟨st5, e5⟩ : ∃ z, z = (fX4_works st3 x1 (fX4_constant st3 x1 x2) x3).2 := ⟨_, rfl⟩
        rw [← e5] at hP
        refine lv_istore (lv' := [(6, .int ((fX4_works st3 x1 (fX4_constant st3 x1 x2) x3).1)), (5, .int ((fX4_begin st x1).1)), (0, .ref (ad 10 0)), (1, .int x1), (2, .int x2), (3, .long x3)]) hx hb dX4_rule_45 hl (by decide) rfl (fun ls hl => ?_)
        refine lv_aload_n hx hb dX4_rule_47 rfl (lv_at hl 2 rfl) ?_
        refine lv_iload hx hb dX4_rule_48 (lv_at hl 0 rfl) ?_
        refine lv_iconst (v := 1) hx hb dX4_rule_50 (by decide) ?_
        refine lv_icmp_ne (tgt := 61) hx hb dX4_rule_51 (by decide) (fun c_6 => ?_) (fun c_6 => ?_)
        · refine lv_aload_n hx hb dX4_rule_61 rfl (lv_at hl 2 rfl) ?_
          refine og_get (C := RX4) (T := TX4) (N := 19) (g := 10) (i := 0) (v := .long (st5.2.1 1)) hx hb hts li_X4_rule_X4 hown hC hP (ow_q10_0) rfl rfl 6 (by decide) (hts _ lk_X4_rule_2) rfl rfl dX4_rule_62 ?_
          refine og_put (C := RX4) (T := TX4) (N := 19) (g := 10) (i := 0) (v := .long (st5.2.1 1)) (ty := .long) hx hb hts li_X4_rule_X4 tyX4 tyX4_ok nmX4 hown hC hP hS (ow_q10_0) rfl rfl 6 (by decide) (hts _ lk_X4_rule_2) rfl rfl (by decide +kernel) rfl rfl (Nat.le_of_ble_eq_true rfl) (we_10_l1 st5 (st5.2.1 1)) dX4_rule_65 (fun H locs hP hS => ?_)
          obtain ⟨st8, e8⟩ : ∃ z, z = (ow_sl st5 1 (st5.2.1 1)) := ⟨_, rfl⟩
          rw [← e8] at hP
          refine lv_iload hx hb dX4_rule_68 (lv_at hl 0 rfl) ?_
          exact W.iret (v := (fX4_works st3 x1 (fX4_constant st3 x1 x2) x3).1) hx hb hr (fun t ht hW => ⟨⟨(fX4_works st3 x1 (fX4_constant st3 x1 x2) x3).1, st8, rfl, (by subst e8; subst e5; subst e3; simp only [fX4_rule, if_neg c_1, if_neg c_2, if_pos c_4, if_neg c_6]), ow_Bi ht hP⟩, hS.F ht⟩) hS.2.2 dX4_rule_70
        · refine lv_aload_n hx hb dX4_rule_54 rfl (lv_at hl 2 rfl) ?_
          refine og_get (C := RX4) (T := TX4) (N := 19) (g := 10) (i := 0) (v := .long (st5.2.1 2)) hx hb hts li_X4_rule_X4 hown hC hP (ow_q10_0) rfl rfl 17 (by decide) (hts _ lk_X4_rule_1) rfl rfl dX4_rule_55 ?_
          refine lv_goto (tgt := 65) hx hb dX4_rule_58 (by decide) ?_
          refine og_put (C := RX4) (T := TX4) (N := 19) (g := 10) (i := 0) (v := .long (st5.2.1 2)) (ty := .long) hx hb hts li_X4_rule_X4 tyX4 tyX4_ok nmX4 hown hC hP hS (ow_q10_0) rfl rfl 6 (by decide) (hts _ lk_X4_rule_2) rfl rfl (by decide +kernel) rfl rfl (Nat.le_of_ble_eq_true rfl) (we_10_l1 st5 (st5.2.1 2)) dX4_rule_65 (fun H locs hP hS => ?_)
          obtain ⟨st7, e7⟩ : ∃ z, z = (ow_sl st5 1 (st5.2.1 2)) := ⟨_, rfl⟩
          rw [← e7] at hP
          refine lv_iload hx hb dX4_rule_68 (lv_at hl 0 rfl) ?_
          exact W.iret (v := (fX4_works st3 x1 (fX4_constant st3 x1 x2) x3).1) hx hb hr (fun t ht hW => ⟨⟨(fX4_works st3 x1 (fX4_constant st3 x1 x2) x3).1, st7, rfl, (by subst e7; subst e5; subst e3; simp only [fX4_rule, if_neg c_1, if_neg c_2, if_pos c_4, if_pos c_6]), ow_Bi ht hP⟩, hS.F ht⟩) hS.2.2 dX4_rule_70
      · refine lv_iload hx hb dX4_rule_30 (lv_at hl 0 rfl) ?_
        exact W.iret (v := (fX4_begin st x1).1) hx hb hr (fun t ht hW => ⟨⟨(fX4_begin st x1).1, st3, rfl, (by subst e3; simp only [fX4_rule, if_neg c_1, if_neg c_2, if_neg c_4]), ow_Bi ht hP⟩, hS.F ht⟩) hS.2.2 dX4_rule_32
    · refine lv_iconst (v := (-1)) hx hb dX4_rule_16 (by decide) ?_
      exact W.iret (v := (-1)) hx hb hr (fun t ht hW => ⟨⟨(-1), st, rfl, (by simp only [fX4_rule, if_neg c_1, if_pos c_2]), ow_Bi ht hP⟩, hS.F ht⟩) hS.2.2 dX4_rule_17

theorem li_X4_result_X4 : ∀ w ∈ u_ws RX4 TX4 19, w ∈ wsX4_result := by decide +kernel
theorem lk_X4_result_1 : (.fieldLink RX4 127 "RecordLabelsModel" "result" "J" : Cond) ∈ wsX4_result := by decide +kernel
def fX4_result (st : ow_St) : Int64 := (st.2.1 1)
set_option maxHeartbeats 4000000 in
set_option maxRecDepth 100000 in
theorem kX4_result (l : Launch) (D : va_G) (ca : Nat → ClassId) (ad : ow_Ad) (A : Nat → Prop) (st : ow_St)  : Met l yX4_result wsX4_result ({ frames := 0, cells := 0, slots := 0, locals := 0 }) (va_Pc [.ref (ad 10 0)] (ow_W D ca ad A st)) (va_Ql (fun r st' => r = (fX4_result st) ∧ st' = st) (ow_B D ca ad) A) 0 0 A := by
  refine Met.ofW (cc := cX4_result) (maxL := 1) (ret := (some .long)) (by decide) rfl ?_
  intro p e s m args below meth c s₁ B hml hv
  obtain ⟨rfl, hP, hC⟩ := hv
  have hx := B.exec
  have hb := B.bytes
  have hr := B.returns
  have hts := atoms_spec (ws := wsX4_result) B.pre
  have hown : s.vm.findClass RX4 = some m.cls := findClass_of_methodNamed B.named
  have hlocks := B.notSynchronized
  have hS : va_S A s.heap s.heap [] := va_S.rf
  have hl := lv_entry ([.ref (ad 10 0)]) (n := 1) (Nat.le_of_ble_eq_true rfl)
  rw [lg_entry_eq]
  generalize (lg_sl ([.ref (ad 10 0)]) ++ List.replicate (1 - (lg_sl ([.ref (ad 10 0)])).length) Slot.unset).toArray = ls at hl ⊢
  have hl : lv_has ls 1 [(0, .ref (ad 10 0))] := hl
  refine lv_aload_n hx hb dX4_result_0 rfl (lv_at hl 0 rfl) ?_
  refine og_get (C := RX4) (T := TX4) (N := 19) (g := 10) (i := 0) (v := .long (st.2.1 1)) hx hb hts li_X4_result_X4 hown hC hP (ow_q10_0) rfl rfl 6 (by decide) (hts _ lk_X4_result_1) rfl rfl dX4_result_1 ?_
  exact W.lret (v := (st.2.1 1)) hx hb hr (fun t ht hW => ⟨⟨(st.2.1 1), st, rfl, ⟨(by simp only [fX4_result]), rfl⟩, ow_Bi ht hP⟩, hS.F ht⟩) hS.2.2 dX4_result_4

theorem li_X4_fail_X4 : ∀ w ∈ u_ws RX4 TX4 19, w ∈ wsX4_fail := by decide +kernel
theorem lk_X4_fail_1 : (.fieldLink RX4 47 "RecordLabelsModel" "state" "[I" : Cond) ∈ wsX4_fail := by decide +kernel
theorem lk_X4_fail_2 : (.fieldLink RX4 50 "RecordLabelsModel" "fails" "[Z" : Cond) ∈ wsX4_fail := by decide +kernel
def fX4_fail (st : ow_St) (x1 x2 : Int32) : Int32 × ow_St := (if (fX4_isKind st x1) = 0 then ((-1), st) else (if (st.1 52 x1.toNatClampNeg) = 0 then (if (st.1 53 x1.toNatClampNeg) = 0 then (let st4 := (ow_si st 53 x1.toNatClampNeg x2); (0, st4)) else (let st5 := (ow_si st 53 x1.toNatClampNeg x2); (1, st5))) else ((-3), st)))
set_option maxHeartbeats 4000000 in
set_option maxRecDepth 100000 in
theorem kX4_fail (l : Launch) (D : va_G) (ca : Nat → ClassId) (ad : ow_Ad) (A : Nat → Prop) (st : ow_St) (x1 : Int32) (x2 : Int32) (hon : x2 = 0 ∨ x2 = 1) : Met l yX4_fail wsX4_fail ({ frames := 2, cells := 0, slots := 0, locals := 42 }) (va_Pc [.ref (ad 10 0), .int x1, .int x2] (ow_W D ca ad A st)) (va_Qi (fun r st' => (r, st') = (fX4_fail st x1 x2)) (ow_B D ca ad) A) 0 0 A := by
  refine Met.ofW (cc := cX4_fail) (maxL := 4) (ret := (some .int)) (by decide) rfl ?_
  intro p e s m args below meth c s₁ B hml hv
  obtain ⟨rfl, hP, hC⟩ := hv
  have hx := B.exec
  have hb := B.bytes
  have hr := B.returns
  have hts := atoms_spec (ws := wsX4_fail) B.pre
  have hown : s.vm.findClass RX4 = some m.cls := findClass_of_methodNamed B.named
  have hlocks := B.notSynchronized
  have hS : va_S A s.heap s.heap [] := va_S.rf
  have hl := lv_entry ([.ref (ad 10 0), .int x1, .int x2]) (n := 4) (Nat.le_of_ble_eq_true rfl)
  rw [lg_entry_eq]
  generalize (lg_sl ([.ref (ad 10 0), .int x1, .int x2]) ++ List.replicate (4 - (lg_sl ([.ref (ad 10 0), .int x1, .int x2])).length) Slot.unset).toArray = ls at hl ⊢
  have hl : lv_has ls 4 [(0, .ref (ad 10 0)), (1, .int x1), (2, .int x2)] := hl
  refine lv_iload_n hx hb dX4_fail_0 rfl (lv_at hl 1 rfl) ?_
  refine og_ciP (og_runS (As := [.int x1]) (rest := []) ⟨hx, hb, hml, hown, hts⟩ (kX4_isKind l D ca ad A st x1) (va_cwS 1 hts gX4_fail_X4_isKind rfl rfl rfl (by decide +kernel) ⟨Nat.le_of_ble_eq_true rfl, Nat.le_of_ble_eq_true rfl⟩) hC hP hS rfl hl.1 rfl (Nat.le_of_ble_eq_true rfl) dX4_fail_1 ⟨Nat.zero_le _, Nat.zero_le _⟩) hS (fun H locs hP hS => ?_)
  refine lv_if_ne (tgt := 9) hx hb dX4_fail_4 (by decide) (fun c_1 => ?_) (fun c_1 => ?_)
  · refine lv_aload_n hx hb dX4_fail_9 rfl (lv_at hl 0 rfl) ?_
    refine og_get (C := RX4) (T := TX4) (N := 19) (g := 10) (i := 0) (v := .ref (ad 11 4)) hx hb hts li_X4_fail_X4 hown hC hP (ow_q10_0) rfl rfl 4 (by decide) (hts _ lk_X4_fail_1) rfl rfl dX4_fail_10 ?_
    refine lv_iload_n hx hb dX4_fail_13 rfl (lv_at hl 1 rfl) ?_
    refine og_iald (g := 11) (i := 4) (j := x1.toNatClampNeg) (v := (st.1 52 x1.toNatClampNeg)) hx hb hC hP (ow_q11_4) rfl (isK_in c_1) rfl rfl dX4_fail_14 ?_
    refine lv_if_eq (tgt := 21) hx hb dX4_fail_15 (by decide) (fun c_2 => ?_) (fun c_2 => ?_)
    · refine lv_aload_n hx hb dX4_fail_21 rfl (lv_at hl 0 rfl) ?_
      refine og_get (C := RX4) (T := TX4) (N := 19) (g := 10) (i := 0) (v := .ref (ad 11 5)) hx hb hts li_X4_fail_X4 hown hC hP (ow_q10_0) rfl rfl 5 (by decide) (hts _ lk_X4_fail_2) rfl rfl dX4_fail_22 ?_
      refine lv_iload_n hx hb dX4_fail_25 rfl (lv_at hl 1 rfl) ?_
      refine og_zald (g := 11) (i := 5) (j := x1.toNatClampNeg) (v := (st.1 53 x1.toNatClampNeg)) hx hb hC hP (ow_q11_5) rfl (isK_in c_1) rfl rfl dX4_fail_26 ?_
      refine lv_if_eq (tgt := 34) hx hb dX4_fail_27 (by decide) (fun c_3 => ?_) (fun c_3 => ?_)
      · refine lv_iconst (v := 0) hx hb dX4_fail_34 (by decide) ?_
        refine lv_istore_n (lv' := [(3, .int 0), (0, .ref (ad 10 0)), (1, .int x1), (2, .int x2)]) hx hb dX4_fail_35 rfl hl (by decide) rfl (fun ls hl => ?_)
        refine lv_aload_n hx hb dX4_fail_36 rfl (lv_at hl 1 rfl) ?_
        refine og_get (C := RX4) (T := TX4) (N := 19) (g := 10) (i := 0) (v := .ref (ad 11 5)) hx hb hts li_X4_fail_X4 hown hC hP (ow_q10_0) rfl rfl 5 (by decide) (hts _ lk_X4_fail_2) rfl rfl dX4_fail_37 ?_
        refine lv_iload_n hx hb dX4_fail_40 rfl (lv_at hl 2 rfl) ?_
        refine lv_iload_n hx hb dX4_fail_41 rfl (lv_at hl 3 rfl) ?_
        refine og_zast (g := 11) (i := 5) (j := x1.toNatClampNeg) (v := x2) hx hb hC hP hS (ow_q11_5) rfl (isK_in c_1) rfl (by rcases hon with rfl | rfl <;> rfl) (we_11_5 st x1.toNatClampNeg x2) dX4_fail_42 (fun H locs hP hS => ?_)
        obtain ⟨st4, e4⟩ : ∃ z, z = (ow_si st 53 x1.toNatClampNeg x2) := ⟨_, rfl⟩
        rw [← e4] at hP
        refine lv_iload_n hx hb dX4_fail_43 rfl (lv_at hl 0 rfl) ?_
        exact W.iret (v := 0) hx hb hr (fun t ht hW => ⟨⟨0, st4, rfl, (by subst e4; simp only [fX4_fail, if_neg c_1, if_pos c_2, if_pos c_3]), ow_Bi ht hP⟩, hS.F ht⟩) hS.2.2 dX4_fail_44
      · refine lv_iconst (v := 1) hx hb dX4_fail_30 (by decide) ?_
        refine lv_goto (tgt := 35) hx hb dX4_fail_31 (by decide) ?_
        refine lv_istore_n (lv' := [(3, .int 1), (0, .ref (ad 10 0)), (1, .int x1), (2, .int x2)]) hx hb dX4_fail_35 rfl hl (by decide) rfl (fun ls hl => ?_)
        refine lv_aload_n hx hb dX4_fail_36 rfl (lv_at hl 1 rfl) ?_
        refine og_get (C := RX4) (T := TX4) (N := 19) (g := 10) (i := 0) (v := .ref (ad 11 5)) hx hb hts li_X4_fail_X4 hown hC hP (ow_q10_0) rfl rfl 5 (by decide) (hts _ lk_X4_fail_2) rfl rfl dX4_fail_37 ?_
        refine lv_iload_n hx hb dX4_fail_40 rfl (lv_at hl 2 rfl) ?_
        refine lv_iload_n hx hb dX4_fail_41 rfl (lv_at hl 3 rfl) ?_
        refine og_zast (g := 11) (i := 5) (j := x1.toNatClampNeg) (v := x2) hx hb hC hP hS (ow_q11_5) rfl (isK_in c_1) rfl (by rcases hon with rfl | rfl <;> rfl) (we_11_5 st x1.toNatClampNeg x2) dX4_fail_42 (fun H locs hP hS => ?_)
        obtain ⟨st5, e5⟩ : ∃ z, z = (ow_si st 53 x1.toNatClampNeg x2) := ⟨_, rfl⟩
        rw [← e5] at hP
        refine lv_iload_n hx hb dX4_fail_43 rfl (lv_at hl 0 rfl) ?_
        exact W.iret (v := 1) hx hb hr (fun t ht hW => ⟨⟨1, st5, rfl, (by subst e5; simp only [fX4_fail, if_neg c_1, if_pos c_2, if_neg c_3]), ow_Bi ht hP⟩, hS.F ht⟩) hS.2.2 dX4_fail_44
    · refine lv_bipush (v := (-3)) hx hb dX4_fail_18 (by decide) ?_
      exact W.iret (v := (-3)) hx hb hr (fun t ht hW => ⟨⟨(-3), st, rfl, (by simp only [fX4_fail, if_neg c_1, if_neg c_2]), ow_Bi ht hP⟩, hS.F ht⟩) hS.2.2 dX4_fail_20
  · refine lv_iconst (v := (-1)) hx hb dX4_fail_7 (by decide) ?_
    exact W.iret (v := (-1)) hx hb hr (fun t ht hW => ⟨⟨(-1), st, rfl, (by simp only [fX4_fail, if_pos c_1]), ow_Bi ht hP⟩, hS.F ht⟩) hS.2.2 dX4_fail_8

theorem li_X4_started_X4 : ∀ w ∈ u_ws RX4 TX4 19, w ∈ wsX4_started := by decide +kernel
theorem lk_X4_started_1 : (.fieldLink RX4 47 "RecordLabelsModel" "state" "[I" : Cond) ∈ wsX4_started := by decide +kernel
def fX4_started (st : ow_St) (x1 : Int32) : Int32 := (if (fX4_isKind st x1) = 0 then (-1) else (st.1 52 x1.toNatClampNeg))
set_option maxHeartbeats 4000000 in
set_option maxRecDepth 100000 in
theorem kX4_started (l : Launch) (D : va_G) (ca : Nat → ClassId) (ad : ow_Ad) (A : Nat → Prop) (st : ow_St) (x1 : Int32) : Met l yX4_started wsX4_started ({ frames := 2, cells := 0, slots := 0, locals := 42 }) (va_Pc [.ref (ad 10 0), .int x1] (ow_W D ca ad A st)) (va_Qi (fun r st' => r = (fX4_started st x1) ∧ st' = st) (ow_B D ca ad) A) 0 0 A := by
  refine Met.ofW (cc := cX4_started) (maxL := 2) (ret := (some .int)) (by decide) rfl ?_
  intro p e s m args below meth c s₁ B hml hv
  obtain ⟨rfl, hP, hC⟩ := hv
  have hx := B.exec
  have hb := B.bytes
  have hr := B.returns
  have hts := atoms_spec (ws := wsX4_started) B.pre
  have hown : s.vm.findClass RX4 = some m.cls := findClass_of_methodNamed B.named
  have hlocks := B.notSynchronized
  have hS : va_S A s.heap s.heap [] := va_S.rf
  have hl := lv_entry ([.ref (ad 10 0), .int x1]) (n := 2) (Nat.le_of_ble_eq_true rfl)
  rw [lg_entry_eq]
  generalize (lg_sl ([.ref (ad 10 0), .int x1]) ++ List.replicate (2 - (lg_sl ([.ref (ad 10 0), .int x1])).length) Slot.unset).toArray = ls at hl ⊢
  have hl : lv_has ls 2 [(0, .ref (ad 10 0)), (1, .int x1)] := hl
  refine lv_iload_n hx hb dX4_started_0 rfl (lv_at hl 1 rfl) ?_
  refine og_ciP (og_runS (As := [.int x1]) (rest := []) ⟨hx, hb, hml, hown, hts⟩ (kX4_isKind l D ca ad A st x1) (va_cwS 1 hts gX4_started_X4_isKind rfl rfl rfl (by decide +kernel) ⟨Nat.le_of_ble_eq_true rfl, Nat.le_of_ble_eq_true rfl⟩) hC hP hS rfl hl.1 rfl (Nat.le_of_ble_eq_true rfl) dX4_started_1 ⟨Nat.zero_le _, Nat.zero_le _⟩) hS (fun H locs hP hS => ?_)
  refine lv_if_eq (tgt := 16) hx hb dX4_started_4 (by decide) (fun c_1 => ?_) (fun c_1 => ?_)
  · refine lv_iconst (v := (-1)) hx hb dX4_started_16 (by decide) ?_
    exact W.iret (v := (-1)) hx hb hr (fun t ht hW => ⟨⟨(-1), st, rfl, ⟨(by simp only [fX4_started, if_pos c_1]), rfl⟩, ow_Bi ht hP⟩, hS.F ht⟩) hS.2.2 dX4_started_17
  · refine lv_aload_n hx hb dX4_started_7 rfl (lv_at hl 0 rfl) ?_
    refine og_get (C := RX4) (T := TX4) (N := 19) (g := 10) (i := 0) (v := .ref (ad 11 4)) hx hb hts li_X4_started_X4 hown hC hP (ow_q10_0) rfl rfl 4 (by decide) (hts _ lk_X4_started_1) rfl rfl dX4_started_8 ?_
    refine lv_iload_n hx hb dX4_started_11 rfl (lv_at hl 1 rfl) ?_
    refine og_iald (g := 11) (i := 4) (j := x1.toNatClampNeg) (v := (st.1 52 x1.toNatClampNeg)) hx hb hC hP (ow_q11_4) rfl (isK_in c_1) rfl rfl dX4_started_12 ?_
    refine lv_goto (tgt := 17) hx hb dX4_started_13 (by decide) ?_
    exact W.iret (v := (st.1 52 x1.toNatClampNeg)) hx hb hr (fun t ht hW => ⟨⟨(st.1 52 x1.toNatClampNeg), st, rfl, ⟨(by simp only [fX4_started, if_neg c_1]), rfl⟩, ow_Bi ht hP⟩, hS.F ht⟩) hS.2.2 dX4_started_17

theorem li_X4_clear_X4 : ∀ w ∈ u_ws RX4 TX4 19, w ∈ wsX4_clear := by decide +kernel
theorem lk_X4_clear_1 : (.fieldLink RX4 57 "RecordLabelsModel" "held" "[I" : Cond) ∈ wsX4_clear := by decide +kernel
theorem lk_X4_clear_2 : (.fieldLink RX4 54 "RecordLabelsModel" "setKind" "[I" : Cond) ∈ wsX4_clear := by decide +kernel
def fX4_clear (st : ow_St) (x1 x2 : Int32) : Int32 × ow_St := (if (fX4_isSet st x1) = 0 then ((-1), st) else (if (fX4_isKind st x2) = 0 then ((-1), st) else (let st3 := (ow_si st 54 x1.toNatClampNeg x2); (let st4 := (ow_si st3 55 x1.toNatClampNeg 0); ((fX4_size st (st.1 55 x1.toNatClampNeg)), st4)))))
set_option maxHeartbeats 4000000 in
set_option maxRecDepth 100000 in
theorem kX4_clear (l : Launch) (D : va_G) (ca : Nat → ClassId) (ad : ow_Ad) (A : Nat → Prop) (st : ow_St) (x1 : Int32) (x2 : Int32) : Met l yX4_clear wsX4_clear ({ frames := 2, cells := 0, slots := 0, locals := 42 }) (va_Pc [.ref (ad 10 0), .int x1, .int x2] (ow_W D ca ad A st)) (va_Qi (fun r st' => (r, st') = (fX4_clear st x1 x2)) (ow_B D ca ad) A) 0 0 A := by
  refine Met.ofW (cc := cX4_clear) (maxL := 4) (ret := (some .int)) (by decide) rfl ?_
  intro p e s m args below meth c s₁ B hml hv
  obtain ⟨rfl, hP, hC⟩ := hv
  have hx := B.exec
  have hb := B.bytes
  have hr := B.returns
  have hts := atoms_spec (ws := wsX4_clear) B.pre
  have hown : s.vm.findClass RX4 = some m.cls := findClass_of_methodNamed B.named
  have hlocks := B.notSynchronized
  have hS : va_S A s.heap s.heap [] := va_S.rf
  have hl := lv_entry ([.ref (ad 10 0), .int x1, .int x2]) (n := 4) (Nat.le_of_ble_eq_true rfl)
  rw [lg_entry_eq]
  generalize (lg_sl ([.ref (ad 10 0), .int x1, .int x2]) ++ List.replicate (4 - (lg_sl ([.ref (ad 10 0), .int x1, .int x2])).length) Slot.unset).toArray = ls at hl ⊢
  have hl : lv_has ls 4 [(0, .ref (ad 10 0)), (1, .int x1), (2, .int x2)] := hl
  refine lv_iload_n hx hb dX4_clear_0 rfl (lv_at hl 1 rfl) ?_
  refine og_ciP (og_runS (As := [.int x1]) (rest := []) ⟨hx, hb, hml, hown, hts⟩ (kX4_isSet l D ca ad A st x1) (va_cwS 1 hts gX4_clear_X4_isSet rfl rfl rfl (by decide +kernel) ⟨Nat.le_of_ble_eq_true rfl, Nat.le_of_ble_eq_true rfl⟩) hC hP hS rfl hl.1 rfl (Nat.le_of_ble_eq_true rfl) dX4_clear_1 ⟨Nat.zero_le _, Nat.zero_le _⟩) hS (fun H locs hP hS => ?_)
  refine lv_if_eq (tgt := 14) hx hb dX4_clear_4 (by decide) (fun c_1 => ?_) (fun c_1 => ?_)
  · refine lv_iconst (v := (-1)) hx hb dX4_clear_14 (by decide) ?_
    exact W.iret (v := (-1)) hx hb hr (fun t ht hW => ⟨⟨(-1), st, rfl, (by simp only [fX4_clear, if_pos c_1]), ow_Bi ht hP⟩, hS.F ht⟩) hS.2.2 dX4_clear_15
  · refine lv_iload_n hx hb dX4_clear_7 rfl (lv_at hl 2 rfl) ?_
    refine og_ciP (og_runS (As := [.int x2]) (rest := []) ⟨hx, hb, hml, hown, hts⟩ (kX4_isKind l D ca ad A st x2) (va_cwS 1 hts gX4_clear_X4_isKind rfl rfl rfl (by decide +kernel) ⟨Nat.le_of_ble_eq_true rfl, Nat.le_of_ble_eq_true rfl⟩) hC hP hS rfl hl.1 rfl (Nat.le_of_ble_eq_true rfl) dX4_clear_8 ⟨Nat.zero_le _, Nat.zero_le _⟩) hS (fun H locs hP hS => ?_)
    refine lv_if_ne (tgt := 16) hx hb dX4_clear_11 (by decide) (fun c_2 => ?_) (fun c_2 => ?_)
    · refine lv_aload_n hx hb dX4_clear_16 rfl (lv_at hl 0 rfl) ?_
      refine og_get (C := RX4) (T := TX4) (N := 19) (g := 10) (i := 0) (v := .ref (ad 11 7)) hx hb hts li_X4_clear_X4 hown hC hP (ow_q10_0) rfl rfl 10 (by decide) (hts _ lk_X4_clear_1) rfl rfl dX4_clear_17 ?_
      refine lv_iload_n hx hb dX4_clear_20 rfl (lv_at hl 1 rfl) ?_
      refine og_iald (g := 11) (i := 7) (j := x1.toNatClampNeg) (v := (st.1 55 x1.toNatClampNeg)) hx hb hC hP (ow_q11_7) rfl (isS_in c_1) rfl rfl dX4_clear_21 ?_
      refine og_ciP (og_runS (As := [.int (st.1 55 x1.toNatClampNeg)]) (rest := []) ⟨hx, hb, hml, hown, hts⟩ (kX4_size l D ca ad A st (st.1 55 x1.toNatClampNeg)) (va_cwS 1 hts gX4_clear_X4_size rfl rfl rfl (by decide +kernel) ⟨Nat.le_of_ble_eq_true rfl, Nat.le_of_ble_eq_true rfl⟩) hC hP hS rfl hl.1 rfl (Nat.le_of_ble_eq_true rfl) dX4_clear_22 ⟨Nat.zero_le _, Nat.zero_le _⟩) hS (fun H locs hP hS => ?_)
      refine lv_istore_n (lv' := [(3, .int (fX4_size st (st.1 55 x1.toNatClampNeg))), (0, .ref (ad 10 0)), (1, .int x1), (2, .int x2)]) hx hb dX4_clear_25 rfl hl (by decide) rfl (fun ls hl => ?_)
      refine lv_aload_n hx hb dX4_clear_26 rfl (lv_at hl 1 rfl) ?_
      refine og_get (C := RX4) (T := TX4) (N := 19) (g := 10) (i := 0) (v := .ref (ad 11 6)) hx hb hts li_X4_clear_X4 hown hC hP (ow_q10_0) rfl rfl 9 (by decide) (hts _ lk_X4_clear_2) rfl rfl dX4_clear_27 ?_
      refine lv_iload_n hx hb dX4_clear_30 rfl (lv_at hl 2 rfl) ?_
      refine lv_iload_n hx hb dX4_clear_31 rfl (lv_at hl 3 rfl) ?_
      refine og_iast (g := 11) (i := 6) (j := x1.toNatClampNeg) (v := x2) hx hb hC hP hS (ow_q11_6) rfl (isS_in c_1) rfl (we_11_6 st x1.toNatClampNeg x2) dX4_clear_32 (fun H locs hP hS => ?_)
      obtain ⟨st3, e3⟩ : ∃ z, z = (ow_si st 54 x1.toNatClampNeg x2) := ⟨_, rfl⟩
      rw [← e3] at hP
      refine lv_aload_n hx hb dX4_clear_33 rfl (lv_at hl 1 rfl) ?_
      refine og_get (C := RX4) (T := TX4) (N := 19) (g := 10) (i := 0) (v := .ref (ad 11 7)) hx hb hts li_X4_clear_X4 hown hC hP (ow_q10_0) rfl rfl 10 (by decide) (hts _ lk_X4_clear_1) rfl rfl dX4_clear_34 ?_
      refine lv_iload_n hx hb dX4_clear_37 rfl (lv_at hl 2 rfl) ?_
      refine lv_iconst (v := 0) hx hb dX4_clear_38 (by decide) ?_
      refine og_iast (g := 11) (i := 7) (j := x1.toNatClampNeg) (v := 0) hx hb hC hP hS (ow_q11_7) rfl (isS_in c_1) rfl (we_11_7 st3 x1.toNatClampNeg 0) dX4_clear_39 (fun H locs hP hS => ?_)
      obtain ⟨st4, e4⟩ : ∃ z, z = (ow_si st3 55 x1.toNatClampNeg 0) := ⟨_, rfl⟩
      rw [← e4] at hP
      refine lv_iload_n hx hb dX4_clear_40 rfl (lv_at hl 0 rfl) ?_
      exact W.iret (v := (fX4_size st (st.1 55 x1.toNatClampNeg))) hx hb hr (fun t ht hW => ⟨⟨(fX4_size st (st.1 55 x1.toNatClampNeg)), st4, rfl, (by subst e4; subst e3; simp only [fX4_clear, if_neg c_1, if_neg c_2]), ow_Bi ht hP⟩, hS.F ht⟩) hS.2.2 dX4_clear_41
    · refine lv_iconst (v := (-1)) hx hb dX4_clear_14 (by decide) ?_
      exact W.iret (v := (-1)) hx hb hr (fun t ht hW => ⟨⟨(-1), st, rfl, (by simp only [fX4_clear, if_neg c_1, if_pos c_2]), ow_Bi ht hP⟩, hS.F ht⟩) hS.2.2 dX4_clear_15

theorem li_X4_put_X4 : ∀ w ∈ u_ws RX4 TX4 19, w ∈ wsX4_put := by decide +kernel
theorem lk_X4_put_1 : (.fieldLink RX4 54 "RecordLabelsModel" "setKind" "[I" : Cond) ∈ wsX4_put := by decide +kernel
theorem lk_X4_put_2 : (.fieldLink RX4 57 "RecordLabelsModel" "held" "[I" : Cond) ∈ wsX4_put := by decide +kernel
def fX4_put (st : ow_St) (x1 x2 x3 : Int32) : Int32 × ow_St := (if (fX4_isSet st x1) = 0 then ((-1), st) else (if (fX4_isCode st (st.1 54 x1.toNatClampNeg) x2) = 0 then ((-1), st) else (if ((st.1 55 x1.toNatClampNeg) &&& (1 <<< ((fX4_constant st (st.1 54 x1.toNatClampNeg) x2) &&& 31))) = 0 then (if x3 = 0 then (let st5 := (ow_si st 55 x1.toNatClampNeg ((st.1 55 x1.toNatClampNeg) &&& ((1 <<< ((fX4_constant st (st.1 54 x1.toNatClampNeg) x2) &&& 31)) ^^^ (-1)))); (0, st5)) else (let st6 := (ow_si st 55 x1.toNatClampNeg ((st.1 55 x1.toNatClampNeg) ||| (1 <<< ((fX4_constant st (st.1 54 x1.toNatClampNeg) x2) &&& 31)))); (0, st6))) else (if x3 = 0 then (let st8 := (ow_si st 55 x1.toNatClampNeg ((st.1 55 x1.toNatClampNeg) &&& ((1 <<< ((fX4_constant st (st.1 54 x1.toNatClampNeg) x2) &&& 31)) ^^^ (-1)))); (1, st8)) else (let st9 := (ow_si st 55 x1.toNatClampNeg ((st.1 55 x1.toNatClampNeg) ||| (1 <<< ((fX4_constant st (st.1 54 x1.toNatClampNeg) x2) &&& 31)))); (1, st9))))))
set_option maxHeartbeats 4000000 in
set_option maxRecDepth 100000 in
theorem kX4_put (l : Launch) (D : va_G) (ca : Nat → ClassId) (ad : ow_Ad) (A : Nat → Prop) (st : ow_St) (x1 : Int32) (x2 : Int32) (x3 : Int32) (hms : iv_ms st) : Met l yX4_put wsX4_put ({ frames := 3, cells := 0, slots := 0, locals := 66 }) (va_Pc [.ref (ad 10 0), .int x1, .int x2, .int x3] (ow_W D ca ad A st)) (va_Qi (fun r st' => (r, st') = (fX4_put st x1 x2 x3)) (ow_B D ca ad) A) 0 0 A := by
  refine Met.ofW (cc := cX4_put) (maxL := 6) (ret := (some .int)) (by decide) rfl ?_
  intro p e s m args below meth c s₁ B hml hv
  obtain ⟨rfl, hP, hC⟩ := hv
  have hx := B.exec
  have hb := B.bytes
  have hr := B.returns
  have hts := atoms_spec (ws := wsX4_put) B.pre
  have hown : s.vm.findClass RX4 = some m.cls := findClass_of_methodNamed B.named
  have hlocks := B.notSynchronized
  have hS : va_S A s.heap s.heap [] := va_S.rf
  have hl := lv_entry ([.ref (ad 10 0), .int x1, .int x2, .int x3]) (n := 6) (Nat.le_of_ble_eq_true rfl)
  rw [lg_entry_eq]
  generalize (lg_sl ([.ref (ad 10 0), .int x1, .int x2, .int x3]) ++ List.replicate (6 - (lg_sl ([.ref (ad 10 0), .int x1, .int x2, .int x3])).length) Slot.unset).toArray = ls at hl ⊢
  have hl : lv_has ls 6 [(0, .ref (ad 10 0)), (1, .int x1), (2, .int x2), (3, .int x3)] := hl
  refine lv_iload_n hx hb dX4_put_0 rfl (lv_at hl 1 rfl) ?_
  refine og_ciP (og_runS (As := [.int x1]) (rest := []) ⟨hx, hb, hml, hown, hts⟩ (kX4_isSet l D ca ad A st x1) (va_cwS 1 hts gX4_put_X4_isSet rfl rfl rfl (by decide +kernel) ⟨Nat.le_of_ble_eq_true rfl, Nat.le_of_ble_eq_true rfl⟩) hC hP hS rfl hl.1 rfl (Nat.le_of_ble_eq_true rfl) dX4_put_1 ⟨Nat.zero_le _, Nat.zero_le _⟩) hS (fun H locs hP hS => ?_)
  refine lv_if_eq (tgt := 21) hx hb dX4_put_4 (by decide) (fun c_1 => ?_) (fun c_1 => ?_)
  · refine lv_iconst (v := (-1)) hx hb dX4_put_21 (by decide) ?_
    exact W.iret (v := (-1)) hx hb hr (fun t ht hW => ⟨⟨(-1), st, rfl, (by simp only [fX4_put, if_pos c_1]), ow_Bi ht hP⟩, hS.F ht⟩) hS.2.2 dX4_put_22
  · refine lv_aload_n hx hb dX4_put_7 rfl (lv_at hl 0 rfl) ?_
    refine lv_aload_n hx hb dX4_put_8 rfl (lv_at hl 0 rfl) ?_
    refine og_get (C := RX4) (T := TX4) (N := 19) (g := 10) (i := 0) (v := .ref (ad 11 6)) hx hb hts li_X4_put_X4 hown hC hP (ow_q10_0) rfl rfl 9 (by decide) (hts _ lk_X4_put_1) rfl rfl dX4_put_9 ?_
    refine lv_iload_n hx hb dX4_put_12 rfl (lv_at hl 1 rfl) ?_
    refine og_iald (g := 11) (i := 6) (j := x1.toNatClampNeg) (v := (st.1 54 x1.toNatClampNeg)) hx hb hC hP (ow_q11_6) rfl (isS_in c_1) rfl rfl dX4_put_13 ?_
    refine lv_iload_n hx hb dX4_put_14 rfl (lv_at hl 2 rfl) ?_
    refine og_ciP (og_runV (C := RX4) (T := TX4) (N := 19) (g := 10) (i := 0) (As := [.int (st.1 54 x1.toNatClampNeg), .int x2]) (rest := []) ⟨hx, hb, hml, hown, hts⟩ (kX4_isCode l D ca ad A st (st.1 54 x1.toNatClampNeg) x2 (hms _ (vp_lt (isS_in c_1)))) (cwV 2 hts gX4_put_X4_isCode rfl rfl rfl (by decide +kernel) ⟨Nat.le_of_ble_eq_true rfl, Nat.le_of_ble_eq_true rfl⟩) hC hP hS (ow_q10_0) rfl rfl rfl hl.1 rfl (Nat.le_of_ble_eq_true rfl) dX4_put_15 ⟨Nat.zero_le _, Nat.zero_le _⟩) hS (fun H locs hP hS => ?_)
    refine lv_if_ne (tgt := 23) hx hb dX4_put_18 (by decide) (fun c_2 => ?_) (fun c_2 => ?_)
    · refine lv_iconst (v := 1) hx hb dX4_put_23 (by decide) ?_
      refine lv_aload_n hx hb dX4_put_24 rfl (lv_at hl 0 rfl) ?_
      refine lv_aload_n hx hb dX4_put_25 rfl (lv_at hl 0 rfl) ?_
      refine og_get (C := RX4) (T := TX4) (N := 19) (g := 10) (i := 0) (v := .ref (ad 11 6)) hx hb hts li_X4_put_X4 hown hC hP (ow_q10_0) rfl rfl 9 (by decide) (hts _ lk_X4_put_1) rfl rfl dX4_put_26 ?_
      refine lv_iload_n hx hb dX4_put_29 rfl (lv_at hl 1 rfl) ?_
      refine og_iald (g := 11) (i := 6) (j := x1.toNatClampNeg) (v := (st.1 54 x1.toNatClampNeg)) hx hb hC hP (ow_q11_6) rfl (isS_in c_1) rfl rfl dX4_put_30 ?_
      refine lv_iload_n hx hb dX4_put_31 rfl (lv_at hl 2 rfl) ?_
      refine og_ciP (og_runV (C := RX4) (T := TX4) (N := 19) (g := 10) (i := 0) (As := [.int (st.1 54 x1.toNatClampNeg), .int x2]) (rest := [.int 1]) ⟨hx, hb, hml, hown, hts⟩ (kX4_constant l D ca ad A st (st.1 54 x1.toNatClampNeg) x2 (hms _ (vp_lt (isS_in c_1)))) (cwV 2 hts gX4_put_X4_constant rfl rfl rfl (by decide +kernel) ⟨Nat.le_of_ble_eq_true rfl, Nat.le_of_ble_eq_true rfl⟩) hC hP hS (ow_q10_0) rfl rfl rfl hl.1 rfl (Nat.le_of_ble_eq_true rfl) dX4_put_32 ⟨Nat.zero_le _, Nat.zero_le _⟩) hS (fun H locs hP hS => ?_)
      refine lv_ishl hx hb dX4_put_35 ?_
      refine lv_istore (lv' := [(4, .int (1 <<< ((fX4_constant st (st.1 54 x1.toNatClampNeg) x2) &&& 31))), (0, .ref (ad 10 0)), (1, .int x1), (2, .int x2), (3, .int x3)]) hx hb dX4_put_36 hl (by decide) rfl (fun ls hl => ?_)
      refine lv_aload_n hx hb dX4_put_38 rfl (lv_at hl 1 rfl) ?_
      refine og_get (C := RX4) (T := TX4) (N := 19) (g := 10) (i := 0) (v := .ref (ad 11 7)) hx hb hts li_X4_put_X4 hown hC hP (ow_q10_0) rfl rfl 10 (by decide) (hts _ lk_X4_put_2) rfl rfl dX4_put_39 ?_
      refine lv_iload_n hx hb dX4_put_42 rfl (lv_at hl 2 rfl) ?_
      refine og_iald (g := 11) (i := 7) (j := x1.toNatClampNeg) (v := (st.1 55 x1.toNatClampNeg)) hx hb hC hP (ow_q11_7) rfl (isS_in c_1) rfl rfl dX4_put_43 ?_
      refine lv_iload hx hb dX4_put_44 (lv_at hl 0 rfl) ?_
      refine lv_iand hx hb dX4_put_46 ?_
      refine lv_if_eq (tgt := 54) hx hb dX4_put_47 (by decide) (fun c_3 => ?_) (fun c_3 => ?_)
      · refine lv_iconst (v := 0) hx hb dX4_put_54 (by decide) ?_
        refine lv_istore (lv' := [(5, .int 0), (4, .int (1 <<< ((fX4_constant st (st.1 54 x1.toNatClampNeg) x2) &&& 31))), (0, .ref (ad 10 0)), (1, .int x1), (2, .int x2), (3, .int x3)]) hx hb dX4_put_55 hl (by decide) rfl (fun ls hl => ?_)
        refine lv_aload_n hx hb dX4_put_57 rfl (lv_at hl 2 rfl) ?_
        refine og_get (C := RX4) (T := TX4) (N := 19) (g := 10) (i := 0) (v := .ref (ad 11 7)) hx hb hts li_X4_put_X4 hown hC hP (ow_q10_0) rfl rfl 10 (by decide) (hts _ lk_X4_put_2) rfl rfl dX4_put_58 ?_
        refine lv_iload_n hx hb dX4_put_61 rfl (lv_at hl 3 rfl) ?_
        refine lv_iload_n hx hb dX4_put_62 rfl (lv_at hl 5 rfl) ?_
        refine lv_if_eq (tgt := 78) hx hb dX4_put_63 (by decide) (fun c_4 => ?_) (fun c_4 => ?_)
        · refine lv_aload_n hx hb dX4_put_78 rfl (lv_at hl 2 rfl) ?_
          refine og_get (C := RX4) (T := TX4) (N := 19) (g := 10) (i := 0) (v := .ref (ad 11 7)) hx hb hts li_X4_put_X4 hown hC hP (ow_q10_0) rfl rfl 10 (by decide) (hts _ lk_X4_put_2) rfl rfl dX4_put_79 ?_
          refine lv_iload_n hx hb dX4_put_82 rfl (lv_at hl 3 rfl) ?_
          refine og_iald (g := 11) (i := 7) (j := x1.toNatClampNeg) (v := (st.1 55 x1.toNatClampNeg)) hx hb hC hP (ow_q11_7) rfl (isS_in c_1) rfl rfl dX4_put_83 ?_
          refine lv_iload hx hb dX4_put_84 (lv_at hl 1 rfl) ?_
          refine lv_iconst (v := (-1)) hx hb dX4_put_86 (by decide) ?_
          refine lv_ixor hx hb dX4_put_87 ?_
          refine lv_iand hx hb dX4_put_88 ?_
          refine og_iast (g := 11) (i := 7) (j := x1.toNatClampNeg) (v := ((st.1 55 x1.toNatClampNeg) &&& ((1 <<< ((fX4_constant st (st.1 54 x1.toNatClampNeg) x2) &&& 31)) ^^^ (-1)))) hx hb hC hP hS (ow_q11_7) rfl (isS_in c_1) rfl (we_11_7 st x1.toNatClampNeg ((st.1 55 x1.toNatClampNeg) &&& ((1 <<< ((fX4_constant st (st.1 54 x1.toNatClampNeg) x2) &&& 31)) ^^^ (-1)))) dX4_put_89 (fun H locs hP hS => ?_)
          obtain ⟨st5, e5⟩ : ∃ z, z = (ow_si st 55 x1.toNatClampNeg ((st.1 55 x1.toNatClampNeg) &&& ((1 <<< ((fX4_constant st (st.1 54 x1.toNatClampNeg) x2) &&& 31)) ^^^ (-1)))) := ⟨_, rfl⟩
          rw [← e5] at hP
          refine lv_iload hx hb dX4_put_90 (lv_at hl 0 rfl) ?_
          exact W.iret (v := 0) hx hb hr (fun t ht hW => ⟨⟨0, st5, rfl, (by subst e5; simp only [fX4_put, if_neg c_1, if_neg c_2, if_pos c_3, if_pos c_4]), ow_Bi ht hP⟩, hS.F ht⟩) hS.2.2 dX4_put_92
        · refine lv_aload_n hx hb dX4_put_66 rfl (lv_at hl 2 rfl) ?_
          refine og_get (C := RX4) (T := TX4) (N := 19) (g := 10) (i := 0) (v := .ref (ad 11 7)) hx hb hts li_X4_put_X4 hown hC hP (ow_q10_0) rfl rfl 10 (by decide) (hts _ lk_X4_put_2) rfl rfl dX4_put_67 ?_
          refine lv_iload_n hx hb dX4_put_70 rfl (lv_at hl 3 rfl) ?_
          refine og_iald (g := 11) (i := 7) (j := x1.toNatClampNeg) (v := (st.1 55 x1.toNatClampNeg)) hx hb hC hP (ow_q11_7) rfl (isS_in c_1) rfl rfl dX4_put_71 ?_
          refine lv_iload hx hb dX4_put_72 (lv_at hl 1 rfl) ?_
          refine lv_ior hx hb dX4_put_74 ?_
          refine lv_goto (tgt := 89) hx hb dX4_put_75 (by decide) ?_
          refine og_iast (g := 11) (i := 7) (j := x1.toNatClampNeg) (v := ((st.1 55 x1.toNatClampNeg) ||| (1 <<< ((fX4_constant st (st.1 54 x1.toNatClampNeg) x2) &&& 31)))) hx hb hC hP hS (ow_q11_7) rfl (isS_in c_1) rfl (we_11_7 st x1.toNatClampNeg ((st.1 55 x1.toNatClampNeg) ||| (1 <<< ((fX4_constant st (st.1 54 x1.toNatClampNeg) x2) &&& 31)))) dX4_put_89 (fun H locs hP hS => ?_)
          obtain ⟨st6, e6⟩ : ∃ z, z = (ow_si st 55 x1.toNatClampNeg ((st.1 55 x1.toNatClampNeg) ||| (1 <<< ((fX4_constant st (st.1 54 x1.toNatClampNeg) x2) &&& 31)))) := ⟨_, rfl⟩
          rw [← e6] at hP
          refine lv_iload hx hb dX4_put_90 (lv_at hl 0 rfl) ?_
          exact W.iret (v := 0) hx hb hr (fun t ht hW => ⟨⟨0, st6, rfl, (by subst e6; simp only [fX4_put, if_neg c_1, if_neg c_2, if_pos c_3, if_neg c_4]), ow_Bi ht hP⟩, hS.F ht⟩) hS.2.2 dX4_put_92
      · refine lv_iconst (v := 1) hx hb dX4_put_50 (by decide) ?_
        refine lv_goto (tgt := 55) hx hb dX4_put_51 (by decide) ?_
        refine lv_istore (lv' := [(5, .int 1), (4, .int (1 <<< ((fX4_constant st (st.1 54 x1.toNatClampNeg) x2) &&& 31))), (0, .ref (ad 10 0)), (1, .int x1), (2, .int x2), (3, .int x3)]) hx hb dX4_put_55 hl (by decide) rfl (fun ls hl => ?_)
        refine lv_aload_n hx hb dX4_put_57 rfl (lv_at hl 2 rfl) ?_
        refine og_get (C := RX4) (T := TX4) (N := 19) (g := 10) (i := 0) (v := .ref (ad 11 7)) hx hb hts li_X4_put_X4 hown hC hP (ow_q10_0) rfl rfl 10 (by decide) (hts _ lk_X4_put_2) rfl rfl dX4_put_58 ?_
        refine lv_iload_n hx hb dX4_put_61 rfl (lv_at hl 3 rfl) ?_
        refine lv_iload_n hx hb dX4_put_62 rfl (lv_at hl 5 rfl) ?_
        refine lv_if_eq (tgt := 78) hx hb dX4_put_63 (by decide) (fun c_7 => ?_) (fun c_7 => ?_)
        · refine lv_aload_n hx hb dX4_put_78 rfl (lv_at hl 2 rfl) ?_
          refine og_get (C := RX4) (T := TX4) (N := 19) (g := 10) (i := 0) (v := .ref (ad 11 7)) hx hb hts li_X4_put_X4 hown hC hP (ow_q10_0) rfl rfl 10 (by decide) (hts _ lk_X4_put_2) rfl rfl dX4_put_79 ?_
          refine lv_iload_n hx hb dX4_put_82 rfl (lv_at hl 3 rfl) ?_
          refine og_iald (g := 11) (i := 7) (j := x1.toNatClampNeg) (v := (st.1 55 x1.toNatClampNeg)) hx hb hC hP (ow_q11_7) rfl (isS_in c_1) rfl rfl dX4_put_83 ?_
          refine lv_iload hx hb dX4_put_84 (lv_at hl 1 rfl) ?_
          refine lv_iconst (v := (-1)) hx hb dX4_put_86 (by decide) ?_
          refine lv_ixor hx hb dX4_put_87 ?_
          refine lv_iand hx hb dX4_put_88 ?_
          refine og_iast (g := 11) (i := 7) (j := x1.toNatClampNeg) (v := ((st.1 55 x1.toNatClampNeg) &&& ((1 <<< ((fX4_constant st (st.1 54 x1.toNatClampNeg) x2) &&& 31)) ^^^ (-1)))) hx hb hC hP hS (ow_q11_7) rfl (isS_in c_1) rfl (we_11_7 st x1.toNatClampNeg ((st.1 55 x1.toNatClampNeg) &&& ((1 <<< ((fX4_constant st (st.1 54 x1.toNatClampNeg) x2) &&& 31)) ^^^ (-1)))) dX4_put_89 (fun H locs hP hS => ?_)
          obtain ⟨st8, e8⟩ : ∃ z, z = (ow_si st 55 x1.toNatClampNeg ((st.1 55 x1.toNatClampNeg) &&& ((1 <<< ((fX4_constant st (st.1 54 x1.toNatClampNeg) x2) &&& 31)) ^^^ (-1)))) := ⟨_, rfl⟩
          rw [← e8] at hP
          refine lv_iload hx hb dX4_put_90 (lv_at hl 0 rfl) ?_
          exact W.iret (v := 1) hx hb hr (fun t ht hW => ⟨⟨1, st8, rfl, (by subst e8; simp only [fX4_put, if_neg c_1, if_neg c_2, if_neg c_3, if_pos c_7]), ow_Bi ht hP⟩, hS.F ht⟩) hS.2.2 dX4_put_92
        · refine lv_aload_n hx hb dX4_put_66 rfl (lv_at hl 2 rfl) ?_
          refine og_get (C := RX4) (T := TX4) (N := 19) (g := 10) (i := 0) (v := .ref (ad 11 7)) hx hb hts li_X4_put_X4 hown hC hP (ow_q10_0) rfl rfl 10 (by decide) (hts _ lk_X4_put_2) rfl rfl dX4_put_67 ?_
          refine lv_iload_n hx hb dX4_put_70 rfl (lv_at hl 3 rfl) ?_
          refine og_iald (g := 11) (i := 7) (j := x1.toNatClampNeg) (v := (st.1 55 x1.toNatClampNeg)) hx hb hC hP (ow_q11_7) rfl (isS_in c_1) rfl rfl dX4_put_71 ?_
          refine lv_iload hx hb dX4_put_72 (lv_at hl 1 rfl) ?_
          refine lv_ior hx hb dX4_put_74 ?_
          refine lv_goto (tgt := 89) hx hb dX4_put_75 (by decide) ?_
          refine og_iast (g := 11) (i := 7) (j := x1.toNatClampNeg) (v := ((st.1 55 x1.toNatClampNeg) ||| (1 <<< ((fX4_constant st (st.1 54 x1.toNatClampNeg) x2) &&& 31)))) hx hb hC hP hS (ow_q11_7) rfl (isS_in c_1) rfl (we_11_7 st x1.toNatClampNeg ((st.1 55 x1.toNatClampNeg) ||| (1 <<< ((fX4_constant st (st.1 54 x1.toNatClampNeg) x2) &&& 31)))) dX4_put_89 (fun H locs hP hS => ?_)
          obtain ⟨st9, e9⟩ : ∃ z, z = (ow_si st 55 x1.toNatClampNeg ((st.1 55 x1.toNatClampNeg) ||| (1 <<< ((fX4_constant st (st.1 54 x1.toNatClampNeg) x2) &&& 31)))) := ⟨_, rfl⟩
          rw [← e9] at hP
          refine lv_iload hx hb dX4_put_90 (lv_at hl 0 rfl) ?_
          exact W.iret (v := 1) hx hb hr (fun t ht hW => ⟨⟨1, st9, rfl, (by subst e9; simp only [fX4_put, if_neg c_1, if_neg c_2, if_neg c_3, if_neg c_7]), ow_Bi ht hP⟩, hS.F ht⟩) hS.2.2 dX4_put_92
    · refine lv_iconst (v := (-1)) hx hb dX4_put_21 (by decide) ?_
      exact W.iret (v := (-1)) hx hb hr (fun t ht hW => ⟨⟨(-1), st, rfl, (by simp only [fX4_put, if_neg c_1, if_pos c_2]), ow_Bi ht hP⟩, hS.F ht⟩) hS.2.2 dX4_put_22

theorem li_X4_join_X4 : ∀ w ∈ u_ws RX4 TX4 19, w ∈ wsX4_join := by decide +kernel
theorem lk_X4_join_1 : (.fieldLink RX4 7 "RecordLabelsModel" "many" "[I" : Cond) ∈ wsX4_join := by decide +kernel
theorem lk_X4_join_2 : (.fieldLink RX4 54 "RecordLabelsModel" "setKind" "[I" : Cond) ∈ wsX4_join := by decide +kernel
theorem lk_X4_join_3 : (.fieldLink RX4 57 "RecordLabelsModel" "held" "[I" : Cond) ∈ wsX4_join := by decide +kernel
def fX4_join (st : ow_St) (x1 x2 x3 x4 : Int32) : Int32 × ow_St := (if (fX4_isIn st x1 0 3) = 0 then ((-1), st) else (if (fX4_isSet st x2) = 0 then ((-1), st) else (if (fX4_isSet st x3) = 0 then ((-1), st) else (if (fX4_isSet st x4) = 0 then ((-1), st) else (if 3 ≤ x1 then (if x1 = 0 then (let st7 := (ow_si st 54 x4.toNatClampNeg (st.1 54 x2.toNatClampNeg)); (let st8 := (ow_si st7 55 x4.toNatClampNeg ((st.1 55 x2.toNatClampNeg) ||| (st.1 55 x3.toNatClampNeg))); ((fX4_size st8 ((st.1 55 x2.toNatClampNeg) ||| (st.1 55 x3.toNatClampNeg))), st8))) else (if x1 = 1 then (let st10 := (ow_si st 54 x4.toNatClampNeg (st.1 54 x2.toNatClampNeg)); (let st11 := (ow_si st10 55 x4.toNatClampNeg ((st.1 55 x2.toNatClampNeg) &&& (st.1 55 x3.toNatClampNeg))); ((fX4_size st11 ((st.1 55 x2.toNatClampNeg) &&& (st.1 55 x3.toNatClampNeg))), st11))) else (if x1 = 2 then (let st13 := (ow_si st 54 x4.toNatClampNeg (st.1 54 x2.toNatClampNeg)); (let st14 := (ow_si st13 55 x4.toNatClampNeg ((st.1 55 x2.toNatClampNeg) &&& ((st.1 55 x3.toNatClampNeg) ^^^ (-1)))); ((fX4_size st14 ((st.1 55 x2.toNatClampNeg) &&& ((st.1 55 x3.toNatClampNeg) ^^^ (-1)))), st14))) else (let st15 := (ow_si st 54 x4.toNatClampNeg (st.1 54 x2.toNatClampNeg)); (let st16 := (ow_si st15 55 x4.toNatClampNeg (((1 <<< ((ow_mny ((st.1 54 x2.toNatClampNeg).toNatClampNeg)) &&& 31)) - 1) &&& ((st.1 55 x2.toNatClampNeg) ^^^ (-1)))); ((fX4_size st16 (((1 <<< ((ow_mny ((st.1 54 x2.toNatClampNeg).toNatClampNeg)) &&& 31)) - 1) &&& ((st.1 55 x2.toNatClampNeg) ^^^ (-1)))), st16)))))) else (if (st.1 54 x2.toNatClampNeg) = (st.1 54 x3.toNatClampNeg) then (if x1 = 0 then (let st19 := (ow_si st 54 x4.toNatClampNeg (st.1 54 x2.toNatClampNeg)); (let st20 := (ow_si st19 55 x4.toNatClampNeg ((st.1 55 x2.toNatClampNeg) ||| (st.1 55 x3.toNatClampNeg))); ((fX4_size st20 ((st.1 55 x2.toNatClampNeg) ||| (st.1 55 x3.toNatClampNeg))), st20))) else (if x1 = 1 then (let st22 := (ow_si st 54 x4.toNatClampNeg (st.1 54 x2.toNatClampNeg)); (let st23 := (ow_si st22 55 x4.toNatClampNeg ((st.1 55 x2.toNatClampNeg) &&& (st.1 55 x3.toNatClampNeg))); ((fX4_size st23 ((st.1 55 x2.toNatClampNeg) &&& (st.1 55 x3.toNatClampNeg))), st23))) else (if x1 = 2 then (let st25 := (ow_si st 54 x4.toNatClampNeg (st.1 54 x2.toNatClampNeg)); (let st26 := (ow_si st25 55 x4.toNatClampNeg ((st.1 55 x2.toNatClampNeg) &&& ((st.1 55 x3.toNatClampNeg) ^^^ (-1)))); ((fX4_size st26 ((st.1 55 x2.toNatClampNeg) &&& ((st.1 55 x3.toNatClampNeg) ^^^ (-1)))), st26))) else (let st27 := (ow_si st 54 x4.toNatClampNeg (st.1 54 x2.toNatClampNeg)); (let st28 := (ow_si st27 55 x4.toNatClampNeg (((1 <<< ((ow_mny ((st.1 54 x2.toNatClampNeg).toNatClampNeg)) &&& 31)) - 1) &&& ((st.1 55 x2.toNatClampNeg) ^^^ (-1)))); ((fX4_size st28 (((1 <<< ((ow_mny ((st.1 54 x2.toNatClampNeg).toNatClampNeg)) &&& 31)) - 1) &&& ((st.1 55 x2.toNatClampNeg) ^^^ (-1)))), st28)))))) else ((-3), st)))))))
set_option maxHeartbeats 4000000 in
set_option maxRecDepth 100000 in
theorem kX4_join (l : Launch) (D : va_G) (ca : Nat → ClassId) (ad : ow_Ad) (A : Nat → Prop) (st : ow_St) (x1 : Int32) (x2 : Int32) (x3 : Int32) (x4 : Int32) (hms : iv_ms st) : Met l yX4_join wsX4_join ({ frames := 2, cells := 0, slots := 0, locals := 42 }) (va_Pc [.ref (ad 10 0), .int x1, .int x2, .int x3, .int x4] (ow_W D ca ad A st)) (va_Qi (fun r st' => (r, st') = (fX4_join st x1 x2 x3 x4)) (ow_B D ca ad) A) 0 0 A := by
  refine Met.ofW (cc := cX4_join) (maxL := 7) (ret := (some .int)) (by decide) rfl ?_
  intro p e s m args below meth c s₁ B hml hv
  obtain ⟨rfl, hP, hC⟩ := hv
  have hx := B.exec
  have hb := B.bytes
  have hr := B.returns
  have hts := atoms_spec (ws := wsX4_join) B.pre
  have hown : s.vm.findClass RX4 = some m.cls := findClass_of_methodNamed B.named
  have hlocks := B.notSynchronized
  have hS : va_S A s.heap s.heap [] := va_S.rf
  have hl := lv_entry ([.ref (ad 10 0), .int x1, .int x2, .int x3, .int x4]) (n := 7) (Nat.le_of_ble_eq_true rfl)
  rw [lg_entry_eq]
  generalize (lg_sl ([.ref (ad 10 0), .int x1, .int x2, .int x3, .int x4]) ++ List.replicate (7 - (lg_sl ([.ref (ad 10 0), .int x1, .int x2, .int x3, .int x4])).length) Slot.unset).toArray = ls at hl ⊢
  have hl : lv_has ls 7 [(0, .ref (ad 10 0)), (1, .int x1), (2, .int x2), (3, .int x3), (4, .int x4)] := hl
  refine lv_iload_n hx hb dX4_join_0 rfl (lv_at hl 1 rfl) ?_
  refine lv_iconst (v := 0) hx hb dX4_join_1 (by decide) ?_
  refine lv_iconst (v := 3) hx hb dX4_join_2 (by decide) ?_
  refine og_ciP (og_runS (As := [.int x1, .int 0, .int 3]) (rest := []) ⟨hx, hb, hml, hown, hts⟩ (kX4_isIn l D ca ad A st x1 0 3) (va_cwS 3 hts gX4_join_X4_isIn rfl rfl rfl (by decide +kernel) ⟨Nat.le_of_ble_eq_true rfl, Nat.le_of_ble_eq_true rfl⟩) hC hP hS rfl hl.1 rfl (Nat.le_of_ble_eq_true rfl) dX4_join_3 ⟨Nat.zero_le _, Nat.zero_le _⟩) hS (fun H locs hP hS => ?_)
  refine lv_if_eq (tgt := 31) hx hb dX4_join_6 (by decide) (fun c_1 => ?_) (fun c_1 => ?_)
  · refine lv_iconst (v := (-1)) hx hb dX4_join_31 (by decide) ?_
    exact W.iret (v := (-1)) hx hb hr (fun t ht hW => ⟨⟨(-1), st, rfl, (by simp only [fX4_join, if_pos c_1]), ow_Bi ht hP⟩, hS.F ht⟩) hS.2.2 dX4_join_32
  · refine lv_iload_n hx hb dX4_join_9 rfl (lv_at hl 2 rfl) ?_
    refine og_ciP (og_runS (As := [.int x2]) (rest := []) ⟨hx, hb, hml, hown, hts⟩ (kX4_isSet l D ca ad A st x2) (va_cwS 1 hts gX4_join_X4_isSet rfl rfl rfl (by decide +kernel) ⟨Nat.le_of_ble_eq_true rfl, Nat.le_of_ble_eq_true rfl⟩) hC hP hS rfl hl.1 rfl (Nat.le_of_ble_eq_true rfl) dX4_join_10 ⟨Nat.zero_le _, Nat.zero_le _⟩) hS (fun H locs hP hS => ?_)
    refine lv_if_eq (tgt := 31) hx hb dX4_join_13 (by decide) (fun c_2 => ?_) (fun c_2 => ?_)
    · refine lv_iconst (v := (-1)) hx hb dX4_join_31 (by decide) ?_
      exact W.iret (v := (-1)) hx hb hr (fun t ht hW => ⟨⟨(-1), st, rfl, (by simp only [fX4_join, if_neg c_1, if_pos c_2]), ow_Bi ht hP⟩, hS.F ht⟩) hS.2.2 dX4_join_32
    · refine lv_iload_n hx hb dX4_join_16 rfl (lv_at hl 3 rfl) ?_
      refine og_ciP (og_runS (As := [.int x3]) (rest := []) ⟨hx, hb, hml, hown, hts⟩ (kX4_isSet l D ca ad A st x3) (va_cwS 1 hts gX4_join_X4_isSet rfl rfl rfl (by decide +kernel) ⟨Nat.le_of_ble_eq_true rfl, Nat.le_of_ble_eq_true rfl⟩) hC hP hS rfl hl.1 rfl (Nat.le_of_ble_eq_true rfl) dX4_join_17 ⟨Nat.zero_le _, Nat.zero_le _⟩) hS (fun H locs hP hS => ?_)
      refine lv_if_eq (tgt := 31) hx hb dX4_join_20 (by decide) (fun c_3 => ?_) (fun c_3 => ?_)
      · refine lv_iconst (v := (-1)) hx hb dX4_join_31 (by decide) ?_
        exact W.iret (v := (-1)) hx hb hr (fun t ht hW => ⟨⟨(-1), st, rfl, (by simp only [fX4_join, if_neg c_1, if_neg c_2, if_pos c_3]), ow_Bi ht hP⟩, hS.F ht⟩) hS.2.2 dX4_join_32
      · refine lv_iload hx hb dX4_join_23 (lv_at hl 4 rfl) ?_
        refine og_ciP (og_runS (As := [.int x4]) (rest := []) ⟨hx, hb, hml, hown, hts⟩ (kX4_isSet l D ca ad A st x4) (va_cwS 1 hts gX4_join_X4_isSet rfl rfl rfl (by decide +kernel) ⟨Nat.le_of_ble_eq_true rfl, Nat.le_of_ble_eq_true rfl⟩) hC hP hS rfl hl.1 rfl (Nat.le_of_ble_eq_true rfl) dX4_join_25 ⟨Nat.zero_le _, Nat.zero_le _⟩) hS (fun H locs hP hS => ?_)
        refine lv_if_ne (tgt := 33) hx hb dX4_join_28 (by decide) (fun c_4 => ?_) (fun c_4 => ?_)
        · refine lv_iload_n hx hb dX4_join_33 rfl (lv_at hl 1 rfl) ?_
          refine lv_iconst (v := 3) hx hb dX4_join_34 (by decide) ?_
          refine lv_icmp_ge (tgt := 56) hx hb dX4_join_35 (by decide) (fun c_5 => ?_) (fun c_5 => ?_)
          · refine lv_iconst (v := 1) hx hb dX4_join_56 (by decide) ?_
            refine lv_aload_n hx hb dX4_join_57 rfl (lv_at hl 0 rfl) ?_
            refine og_get (C := RX4) (T := TX4) (N := 19) (g := 10) (i := 0) (v := .ref (ad 11 0)) hx hb hts li_X4_join_X4 hown hC hP (ow_q10_0) rfl rfl 0 (by decide) (hts _ lk_X4_join_1) rfl rfl dX4_join_58 ?_
            refine lv_aload_n hx hb dX4_join_61 rfl (lv_at hl 0 rfl) ?_
            refine og_get (C := RX4) (T := TX4) (N := 19) (g := 10) (i := 0) (v := .ref (ad 11 6)) hx hb hts li_X4_join_X4 hown hC hP (ow_q10_0) rfl rfl 9 (by decide) (hts _ lk_X4_join_2) rfl rfl dX4_join_62 ?_
            refine lv_iload_n hx hb dX4_join_65 rfl (lv_at hl 2 rfl) ?_
            refine og_iald (g := 11) (i := 6) (j := x2.toNatClampNeg) (v := (st.1 54 x2.toNatClampNeg)) hx hb hC hP (ow_q11_6) rfl (isS_in c_2) rfl rfl dX4_join_66 ?_
            refine og_iald (g := 11) (i := 0) (j := ((st.1 54 x2.toNatClampNeg).toNatClampNeg)) (v := (ow_mny ((st.1 54 x2.toNatClampNeg).toNatClampNeg))) hx hb hC hP (ow_q11_0) rfl (hms _ (vp_lt (isS_in c_2))) rfl rfl dX4_join_67 ?_
            refine lv_ishl hx hb dX4_join_68 ?_
            refine lv_iconst (v := 1) hx hb dX4_join_69 (by decide) ?_
            refine lv_isub hx hb dX4_join_70 ?_
            refine lv_istore (lv' := [(5, .int ((1 <<< ((ow_mny ((st.1 54 x2.toNatClampNeg).toNatClampNeg)) &&& 31)) - 1)), (0, .ref (ad 10 0)), (1, .int x1), (2, .int x2), (3, .int x3), (4, .int x4)]) hx hb dX4_join_71 hl (by decide) rfl (fun ls hl => ?_)
            refine lv_iload_n hx hb dX4_join_73 rfl (lv_at hl 2 rfl) ?_
            refine lv_if_ne (tgt := 93) hx hb dX4_join_74 (by decide) (fun c_6 => ?_) (fun c_6 => ?_)
            · refine lv_iload_n hx hb dX4_join_93 rfl (lv_at hl 2 rfl) ?_
              refine lv_iconst (v := 1) hx hb dX4_join_94 (by decide) ?_
              refine lv_icmp_ne (tgt := 114) hx hb dX4_join_95 (by decide) (fun c_9 => ?_) (fun c_9 => ?_)
              · refine lv_iload_n hx hb dX4_join_114 rfl (lv_at hl 2 rfl) ?_
                refine lv_iconst (v := 2) hx hb dX4_join_115 (by decide) ?_
                refine lv_icmp_ne (tgt := 137) hx hb dX4_join_116 (by decide) (fun c_12 => ?_) (fun c_12 => ?_)
                · refine lv_iload hx hb dX4_join_137 (lv_at hl 0 rfl) ?_
                  refine lv_aload_n hx hb dX4_join_139 rfl (lv_at hl 1 rfl) ?_
                  refine og_get (C := RX4) (T := TX4) (N := 19) (g := 10) (i := 0) (v := .ref (ad 11 7)) hx hb hts li_X4_join_X4 hown hC hP (ow_q10_0) rfl rfl 10 (by decide) (hts _ lk_X4_join_3) rfl rfl dX4_join_140 ?_
                  refine lv_iload_n hx hb dX4_join_143 rfl (lv_at hl 3 rfl) ?_
                  refine og_iald (g := 11) (i := 7) (j := x2.toNatClampNeg) (v := (st.1 55 x2.toNatClampNeg)) hx hb hC hP (ow_q11_7) rfl (isS_in c_2) rfl rfl dX4_join_144 ?_
                  refine lv_iconst (v := (-1)) hx hb dX4_join_145 (by decide) ?_
                  refine lv_ixor hx hb dX4_join_146 ?_
                  refine lv_iand hx hb dX4_join_147 ?_
                  refine lv_istore (lv' := [(6, .int (((1 <<< ((ow_mny ((st.1 54 x2.toNatClampNeg).toNatClampNeg)) &&& 31)) - 1) &&& ((st.1 55 x2.toNatClampNeg) ^^^ (-1)))), (5, .int ((1 <<< ((ow_mny ((st.1 54 x2.toNatClampNeg).toNatClampNeg)) &&& 31)) - 1)), (0, .ref (ad 10 0)), (1, .int x1), (2, .int x2), (3, .int x3), (4, .int x4)]) hx hb dX4_join_148 hl (by decide) rfl (fun ls hl => ?_)
                  refine lv_aload_n hx hb dX4_join_150 rfl (lv_at hl 2 rfl) ?_
                  refine og_get (C := RX4) (T := TX4) (N := 19) (g := 10) (i := 0) (v := .ref (ad 11 6)) hx hb hts li_X4_join_X4 hown hC hP (ow_q10_0) rfl rfl 9 (by decide) (hts _ lk_X4_join_2) rfl rfl dX4_join_151 ?_
                  refine lv_iload hx hb dX4_join_154 (lv_at hl 6 rfl) ?_
                  refine lv_aload_n hx hb dX4_join_156 rfl (lv_at hl 2 rfl) ?_
                  refine og_get (C := RX4) (T := TX4) (N := 19) (g := 10) (i := 0) (v := .ref (ad 11 6)) hx hb hts li_X4_join_X4 hown hC hP (ow_q10_0) rfl rfl 9 (by decide) (hts _ lk_X4_join_2) rfl rfl dX4_join_157 ?_
                  refine lv_iload_n hx hb dX4_join_160 rfl (lv_at hl 4 rfl) ?_
                  refine og_iald (g := 11) (i := 6) (j := x2.toNatClampNeg) (v := (st.1 54 x2.toNatClampNeg)) hx hb hC hP (ow_q11_6) rfl (isS_in c_2) rfl rfl dX4_join_161 ?_
                  refine og_iast (g := 11) (i := 6) (j := x4.toNatClampNeg) (v := (st.1 54 x2.toNatClampNeg)) hx hb hC hP hS (ow_q11_6) rfl (isS_in c_4) rfl (we_11_6 st x4.toNatClampNeg (st.1 54 x2.toNatClampNeg)) dX4_join_162 (fun H locs hP hS => ?_)
                  obtain ⟨st15, e15⟩ : ∃ z, z = (ow_si st 54 x4.toNatClampNeg (st.1 54 x2.toNatClampNeg)) := ⟨_, rfl⟩
                  rw [← e15] at hP
                  refine lv_aload_n hx hb dX4_join_163 rfl (lv_at hl 2 rfl) ?_
                  refine og_get (C := RX4) (T := TX4) (N := 19) (g := 10) (i := 0) (v := .ref (ad 11 7)) hx hb hts li_X4_join_X4 hown hC hP (ow_q10_0) rfl rfl 10 (by decide) (hts _ lk_X4_join_3) rfl rfl dX4_join_164 ?_
                  refine lv_iload hx hb dX4_join_167 (lv_at hl 6 rfl) ?_
                  refine lv_iload hx hb dX4_join_169 (lv_at hl 0 rfl) ?_
                  refine og_iast (g := 11) (i := 7) (j := x4.toNatClampNeg) (v := (((1 <<< ((ow_mny ((st.1 54 x2.toNatClampNeg).toNatClampNeg)) &&& 31)) - 1) &&& ((st.1 55 x2.toNatClampNeg) ^^^ (-1)))) hx hb hC hP hS (ow_q11_7) rfl (isS_in c_4) rfl (we_11_7 st15 x4.toNatClampNeg (((1 <<< ((ow_mny ((st.1 54 x2.toNatClampNeg).toNatClampNeg)) &&& 31)) - 1) &&& ((st.1 55 x2.toNatClampNeg) ^^^ (-1)))) dX4_join_171 (fun H locs hP hS => ?_)
                  obtain ⟨st16, e16⟩ : ∃ z, z = (ow_si st15 55 x4.toNatClampNeg (((1 <<< ((ow_mny ((st.1 54 x2.toNatClampNeg).toNatClampNeg)) &&& 31)) - 1) &&& ((st.1 55 x2.toNatClampNeg) ^^^ (-1)))) := ⟨_, rfl⟩
                  rw [← e16] at hP
                  refine lv_iload hx hb dX4_join_172 (lv_at hl 0 rfl) ?_
                  refine og_ciP (og_runS (As := [.int (((1 <<< ((ow_mny ((st.1 54 x2.toNatClampNeg).toNatClampNeg)) &&& 31)) - 1) &&& ((st.1 55 x2.toNatClampNeg) ^^^ (-1)))]) (rest := []) ⟨hx, hb, hml, hown, hts⟩ (kX4_size l D ca ad A st16 (((1 <<< ((ow_mny ((st.1 54 x2.toNatClampNeg).toNatClampNeg)) &&& 31)) - 1) &&& ((st.1 55 x2.toNatClampNeg) ^^^ (-1)))) (va_cwS 1 hts gX4_join_X4_size rfl rfl rfl (by decide +kernel) ⟨Nat.le_of_ble_eq_true rfl, Nat.le_of_ble_eq_true rfl⟩) hC hP hS rfl hl.1 rfl (Nat.le_of_ble_eq_true rfl) dX4_join_174 ⟨Nat.zero_le _, Nat.zero_le _⟩) hS (fun H locs hP hS => ?_)
                  exact W.iret (v := (fX4_size st16 (((1 <<< ((ow_mny ((st.1 54 x2.toNatClampNeg).toNatClampNeg)) &&& 31)) - 1) &&& ((st.1 55 x2.toNatClampNeg) ^^^ (-1))))) hx hb hr (fun t ht hW => ⟨⟨(fX4_size st16 (((1 <<< ((ow_mny ((st.1 54 x2.toNatClampNeg).toNatClampNeg)) &&& 31)) - 1) &&& ((st.1 55 x2.toNatClampNeg) ^^^ (-1)))), st16, rfl, (by subst e16; subst e15; simp only [fX4_join, if_neg c_1, if_neg c_2, if_neg c_3, if_neg c_4, if_pos c_5, if_neg c_6, if_neg c_9, if_neg c_12]), ow_Bi ht hP⟩, hS.F ht⟩) hS.2.2 dX4_join_177
                · refine lv_aload_n hx hb dX4_join_119 rfl (lv_at hl 1 rfl) ?_
                  refine og_get (C := RX4) (T := TX4) (N := 19) (g := 10) (i := 0) (v := .ref (ad 11 7)) hx hb hts li_X4_join_X4 hown hC hP (ow_q10_0) rfl rfl 10 (by decide) (hts _ lk_X4_join_3) rfl rfl dX4_join_120 ?_
                  refine lv_iload_n hx hb dX4_join_123 rfl (lv_at hl 3 rfl) ?_
                  refine og_iald (g := 11) (i := 7) (j := x2.toNatClampNeg) (v := (st.1 55 x2.toNatClampNeg)) hx hb hC hP (ow_q11_7) rfl (isS_in c_2) rfl rfl dX4_join_124 ?_
                  refine lv_aload_n hx hb dX4_join_125 rfl (lv_at hl 1 rfl) ?_
                  refine og_get (C := RX4) (T := TX4) (N := 19) (g := 10) (i := 0) (v := .ref (ad 11 7)) hx hb hts li_X4_join_X4 hown hC hP (ow_q10_0) rfl rfl 10 (by decide) (hts _ lk_X4_join_3) rfl rfl dX4_join_126 ?_
                  refine lv_iload_n hx hb dX4_join_129 rfl (lv_at hl 4 rfl) ?_
                  refine og_iald (g := 11) (i := 7) (j := x3.toNatClampNeg) (v := (st.1 55 x3.toNatClampNeg)) hx hb hC hP (ow_q11_7) rfl (isS_in c_3) rfl rfl dX4_join_130 ?_
                  refine lv_iconst (v := (-1)) hx hb dX4_join_131 (by decide) ?_
                  refine lv_ixor hx hb dX4_join_132 ?_
                  refine lv_iand hx hb dX4_join_133 ?_
                  refine lv_goto (tgt := 148) hx hb dX4_join_134 (by decide) ?_
                  refine lv_istore (lv' := [(6, .int ((st.1 55 x2.toNatClampNeg) &&& ((st.1 55 x3.toNatClampNeg) ^^^ (-1)))), (5, .int ((1 <<< ((ow_mny ((st.1 54 x2.toNatClampNeg).toNatClampNeg)) &&& 31)) - 1)), (0, .ref (ad 10 0)), (1, .int x1), (2, .int x2), (3, .int x3), (4, .int x4)]) hx hb dX4_join_148 hl (by decide) rfl (fun ls hl => ?_)
                  refine lv_aload_n hx hb dX4_join_150 rfl (lv_at hl 2 rfl) ?_
                  refine og_get (C := RX4) (T := TX4) (N := 19) (g := 10) (i := 0) (v := .ref (ad 11 6)) hx hb hts li_X4_join_X4 hown hC hP (ow_q10_0) rfl rfl 9 (by decide) (hts _ lk_X4_join_2) rfl rfl dX4_join_151 ?_
                  refine lv_iload hx hb dX4_join_154 (lv_at hl 6 rfl) ?_
                  refine lv_aload_n hx hb dX4_join_156 rfl (lv_at hl 2 rfl) ?_
                  refine og_get (C := RX4) (T := TX4) (N := 19) (g := 10) (i := 0) (v := .ref (ad 11 6)) hx hb hts li_X4_join_X4 hown hC hP (ow_q10_0) rfl rfl 9 (by decide) (hts _ lk_X4_join_2) rfl rfl dX4_join_157 ?_
                  refine lv_iload_n hx hb dX4_join_160 rfl (lv_at hl 4 rfl) ?_
                  refine og_iald (g := 11) (i := 6) (j := x2.toNatClampNeg) (v := (st.1 54 x2.toNatClampNeg)) hx hb hC hP (ow_q11_6) rfl (isS_in c_2) rfl rfl dX4_join_161 ?_
                  refine og_iast (g := 11) (i := 6) (j := x4.toNatClampNeg) (v := (st.1 54 x2.toNatClampNeg)) hx hb hC hP hS (ow_q11_6) rfl (isS_in c_4) rfl (we_11_6 st x4.toNatClampNeg (st.1 54 x2.toNatClampNeg)) dX4_join_162 (fun H locs hP hS => ?_)
                  obtain ⟨st13, e13⟩ : ∃ z, z = (ow_si st 54 x4.toNatClampNeg (st.1 54 x2.toNatClampNeg)) := ⟨_, rfl⟩
                  rw [← e13] at hP
                  refine lv_aload_n hx hb dX4_join_163 rfl (lv_at hl 2 rfl) ?_
                  refine og_get (C := RX4) (T := TX4) (N := 19) (g := 10) (i := 0) (v := .ref (ad 11 7)) hx hb hts li_X4_join_X4 hown hC hP (ow_q10_0) rfl rfl 10 (by decide) (hts _ lk_X4_join_3) rfl rfl dX4_join_164 ?_
                  refine lv_iload hx hb dX4_join_167 (lv_at hl 6 rfl) ?_
                  refine lv_iload hx hb dX4_join_169 (lv_at hl 0 rfl) ?_
                  refine og_iast (g := 11) (i := 7) (j := x4.toNatClampNeg) (v := ((st.1 55 x2.toNatClampNeg) &&& ((st.1 55 x3.toNatClampNeg) ^^^ (-1)))) hx hb hC hP hS (ow_q11_7) rfl (isS_in c_4) rfl (we_11_7 st13 x4.toNatClampNeg ((st.1 55 x2.toNatClampNeg) &&& ((st.1 55 x3.toNatClampNeg) ^^^ (-1)))) dX4_join_171 (fun H locs hP hS => ?_)
                  obtain ⟨st14, e14⟩ : ∃ z, z = (ow_si st13 55 x4.toNatClampNeg ((st.1 55 x2.toNatClampNeg) &&& ((st.1 55 x3.toNatClampNeg) ^^^ (-1)))) := ⟨_, rfl⟩
                  rw [← e14] at hP
                  refine lv_iload hx hb dX4_join_172 (lv_at hl 0 rfl) ?_
                  refine og_ciP (og_runS (As := [.int ((st.1 55 x2.toNatClampNeg) &&& ((st.1 55 x3.toNatClampNeg) ^^^ (-1)))]) (rest := []) ⟨hx, hb, hml, hown, hts⟩ (kX4_size l D ca ad A st14 ((st.1 55 x2.toNatClampNeg) &&& ((st.1 55 x3.toNatClampNeg) ^^^ (-1)))) (va_cwS 1 hts gX4_join_X4_size rfl rfl rfl (by decide +kernel) ⟨Nat.le_of_ble_eq_true rfl, Nat.le_of_ble_eq_true rfl⟩) hC hP hS rfl hl.1 rfl (Nat.le_of_ble_eq_true rfl) dX4_join_174 ⟨Nat.zero_le _, Nat.zero_le _⟩) hS (fun H locs hP hS => ?_)
                  exact W.iret (v := (fX4_size st14 ((st.1 55 x2.toNatClampNeg) &&& ((st.1 55 x3.toNatClampNeg) ^^^ (-1))))) hx hb hr (fun t ht hW => ⟨⟨(fX4_size st14 ((st.1 55 x2.toNatClampNeg) &&& ((st.1 55 x3.toNatClampNeg) ^^^ (-1)))), st14, rfl, (by subst e14; subst e13; simp only [fX4_join, if_neg c_1, if_neg c_2, if_neg c_3, if_neg c_4, if_pos c_5, if_neg c_6, if_neg c_9, if_pos c_12]), ow_Bi ht hP⟩, hS.F ht⟩) hS.2.2 dX4_join_177
              · refine lv_aload_n hx hb dX4_join_98 rfl (lv_at hl 1 rfl) ?_
                refine og_get (C := RX4) (T := TX4) (N := 19) (g := 10) (i := 0) (v := .ref (ad 11 7)) hx hb hts li_X4_join_X4 hown hC hP (ow_q10_0) rfl rfl 10 (by decide) (hts _ lk_X4_join_3) rfl rfl dX4_join_99 ?_
                refine lv_iload_n hx hb dX4_join_102 rfl (lv_at hl 3 rfl) ?_
                refine og_iald (g := 11) (i := 7) (j := x2.toNatClampNeg) (v := (st.1 55 x2.toNatClampNeg)) hx hb hC hP (ow_q11_7) rfl (isS_in c_2) rfl rfl dX4_join_103 ?_
                refine lv_aload_n hx hb dX4_join_104 rfl (lv_at hl 1 rfl) ?_
                refine og_get (C := RX4) (T := TX4) (N := 19) (g := 10) (i := 0) (v := .ref (ad 11 7)) hx hb hts li_X4_join_X4 hown hC hP (ow_q10_0) rfl rfl 10 (by decide) (hts _ lk_X4_join_3) rfl rfl dX4_join_105 ?_
                refine lv_iload_n hx hb dX4_join_108 rfl (lv_at hl 4 rfl) ?_
                refine og_iald (g := 11) (i := 7) (j := x3.toNatClampNeg) (v := (st.1 55 x3.toNatClampNeg)) hx hb hC hP (ow_q11_7) rfl (isS_in c_3) rfl rfl dX4_join_109 ?_
                refine lv_iand hx hb dX4_join_110 ?_
                refine lv_goto (tgt := 148) hx hb dX4_join_111 (by decide) ?_
                refine lv_istore (lv' := [(6, .int ((st.1 55 x2.toNatClampNeg) &&& (st.1 55 x3.toNatClampNeg))), (5, .int ((1 <<< ((ow_mny ((st.1 54 x2.toNatClampNeg).toNatClampNeg)) &&& 31)) - 1)), (0, .ref (ad 10 0)), (1, .int x1), (2, .int x2), (3, .int x3), (4, .int x4)]) hx hb dX4_join_148 hl (by decide) rfl (fun ls hl => ?_)
                refine lv_aload_n hx hb dX4_join_150 rfl (lv_at hl 2 rfl) ?_
                refine og_get (C := RX4) (T := TX4) (N := 19) (g := 10) (i := 0) (v := .ref (ad 11 6)) hx hb hts li_X4_join_X4 hown hC hP (ow_q10_0) rfl rfl 9 (by decide) (hts _ lk_X4_join_2) rfl rfl dX4_join_151 ?_
                refine lv_iload hx hb dX4_join_154 (lv_at hl 6 rfl) ?_
                refine lv_aload_n hx hb dX4_join_156 rfl (lv_at hl 2 rfl) ?_
                refine og_get (C := RX4) (T := TX4) (N := 19) (g := 10) (i := 0) (v := .ref (ad 11 6)) hx hb hts li_X4_join_X4 hown hC hP (ow_q10_0) rfl rfl 9 (by decide) (hts _ lk_X4_join_2) rfl rfl dX4_join_157 ?_
                refine lv_iload_n hx hb dX4_join_160 rfl (lv_at hl 4 rfl) ?_
                refine og_iald (g := 11) (i := 6) (j := x2.toNatClampNeg) (v := (st.1 54 x2.toNatClampNeg)) hx hb hC hP (ow_q11_6) rfl (isS_in c_2) rfl rfl dX4_join_161 ?_
                refine og_iast (g := 11) (i := 6) (j := x4.toNatClampNeg) (v := (st.1 54 x2.toNatClampNeg)) hx hb hC hP hS (ow_q11_6) rfl (isS_in c_4) rfl (we_11_6 st x4.toNatClampNeg (st.1 54 x2.toNatClampNeg)) dX4_join_162 (fun H locs hP hS => ?_)
                obtain ⟨st10, e10⟩ : ∃ z, z = (ow_si st 54 x4.toNatClampNeg (st.1 54 x2.toNatClampNeg)) := ⟨_, rfl⟩
                rw [← e10] at hP
                refine lv_aload_n hx hb dX4_join_163 rfl (lv_at hl 2 rfl) ?_
                refine og_get (C := RX4) (T := TX4) (N := 19) (g := 10) (i := 0) (v := .ref (ad 11 7)) hx hb hts li_X4_join_X4 hown hC hP (ow_q10_0) rfl rfl 10 (by decide) (hts _ lk_X4_join_3) rfl rfl dX4_join_164 ?_
                refine lv_iload hx hb dX4_join_167 (lv_at hl 6 rfl) ?_
                refine lv_iload hx hb dX4_join_169 (lv_at hl 0 rfl) ?_
                refine og_iast (g := 11) (i := 7) (j := x4.toNatClampNeg) (v := ((st.1 55 x2.toNatClampNeg) &&& (st.1 55 x3.toNatClampNeg))) hx hb hC hP hS (ow_q11_7) rfl (isS_in c_4) rfl (we_11_7 st10 x4.toNatClampNeg ((st.1 55 x2.toNatClampNeg) &&& (st.1 55 x3.toNatClampNeg))) dX4_join_171 (fun H locs hP hS => ?_)
                obtain ⟨st11, e11⟩ : ∃ z, z = (ow_si st10 55 x4.toNatClampNeg ((st.1 55 x2.toNatClampNeg) &&& (st.1 55 x3.toNatClampNeg))) := ⟨_, rfl⟩
                rw [← e11] at hP
                refine lv_iload hx hb dX4_join_172 (lv_at hl 0 rfl) ?_
                refine og_ciP (og_runS (As := [.int ((st.1 55 x2.toNatClampNeg) &&& (st.1 55 x3.toNatClampNeg))]) (rest := []) ⟨hx, hb, hml, hown, hts⟩ (kX4_size l D ca ad A st11 ((st.1 55 x2.toNatClampNeg) &&& (st.1 55 x3.toNatClampNeg))) (va_cwS 1 hts gX4_join_X4_size rfl rfl rfl (by decide +kernel) ⟨Nat.le_of_ble_eq_true rfl, Nat.le_of_ble_eq_true rfl⟩) hC hP hS rfl hl.1 rfl (Nat.le_of_ble_eq_true rfl) dX4_join_174 ⟨Nat.zero_le _, Nat.zero_le _⟩) hS (fun H locs hP hS => ?_)
                exact W.iret (v := (fX4_size st11 ((st.1 55 x2.toNatClampNeg) &&& (st.1 55 x3.toNatClampNeg)))) hx hb hr (fun t ht hW => ⟨⟨(fX4_size st11 ((st.1 55 x2.toNatClampNeg) &&& (st.1 55 x3.toNatClampNeg))), st11, rfl, (by subst e11; subst e10; simp only [fX4_join, if_neg c_1, if_neg c_2, if_neg c_3, if_neg c_4, if_pos c_5, if_neg c_6, if_pos c_9]), ow_Bi ht hP⟩, hS.F ht⟩) hS.2.2 dX4_join_177
            · refine lv_aload_n hx hb dX4_join_77 rfl (lv_at hl 1 rfl) ?_
              refine og_get (C := RX4) (T := TX4) (N := 19) (g := 10) (i := 0) (v := .ref (ad 11 7)) hx hb hts li_X4_join_X4 hown hC hP (ow_q10_0) rfl rfl 10 (by decide) (hts _ lk_X4_join_3) rfl rfl dX4_join_78 ?_
              refine lv_iload_n hx hb dX4_join_81 rfl (lv_at hl 3 rfl) ?_
              refine og_iald (g := 11) (i := 7) (j := x2.toNatClampNeg) (v := (st.1 55 x2.toNatClampNeg)) hx hb hC hP (ow_q11_7) rfl (isS_in c_2) rfl rfl dX4_join_82 ?_
              refine lv_aload_n hx hb dX4_join_83 rfl (lv_at hl 1 rfl) ?_
              refine og_get (C := RX4) (T := TX4) (N := 19) (g := 10) (i := 0) (v := .ref (ad 11 7)) hx hb hts li_X4_join_X4 hown hC hP (ow_q10_0) rfl rfl 10 (by decide) (hts _ lk_X4_join_3) rfl rfl dX4_join_84 ?_
              refine lv_iload_n hx hb dX4_join_87 rfl (lv_at hl 4 rfl) ?_
              refine og_iald (g := 11) (i := 7) (j := x3.toNatClampNeg) (v := (st.1 55 x3.toNatClampNeg)) hx hb hC hP (ow_q11_7) rfl (isS_in c_3) rfl rfl dX4_join_88 ?_
              refine lv_ior hx hb dX4_join_89 ?_
              refine lv_goto (tgt := 148) hx hb dX4_join_90 (by decide) ?_
              refine lv_istore (lv' := [(6, .int ((st.1 55 x2.toNatClampNeg) ||| (st.1 55 x3.toNatClampNeg))), (5, .int ((1 <<< ((ow_mny ((st.1 54 x2.toNatClampNeg).toNatClampNeg)) &&& 31)) - 1)), (0, .ref (ad 10 0)), (1, .int x1), (2, .int x2), (3, .int x3), (4, .int x4)]) hx hb dX4_join_148 hl (by decide) rfl (fun ls hl => ?_)
              refine lv_aload_n hx hb dX4_join_150 rfl (lv_at hl 2 rfl) ?_
              refine og_get (C := RX4) (T := TX4) (N := 19) (g := 10) (i := 0) (v := .ref (ad 11 6)) hx hb hts li_X4_join_X4 hown hC hP (ow_q10_0) rfl rfl 9 (by decide) (hts _ lk_X4_join_2) rfl rfl dX4_join_151 ?_
              refine lv_iload hx hb dX4_join_154 (lv_at hl 6 rfl) ?_
              refine lv_aload_n hx hb dX4_join_156 rfl (lv_at hl 2 rfl) ?_
              refine og_get (C := RX4) (T := TX4) (N := 19) (g := 10) (i := 0) (v := .ref (ad 11 6)) hx hb hts li_X4_join_X4 hown hC hP (ow_q10_0) rfl rfl 9 (by decide) (hts _ lk_X4_join_2) rfl rfl dX4_join_157 ?_
              refine lv_iload_n hx hb dX4_join_160 rfl (lv_at hl 4 rfl) ?_
              refine og_iald (g := 11) (i := 6) (j := x2.toNatClampNeg) (v := (st.1 54 x2.toNatClampNeg)) hx hb hC hP (ow_q11_6) rfl (isS_in c_2) rfl rfl dX4_join_161 ?_
              refine og_iast (g := 11) (i := 6) (j := x4.toNatClampNeg) (v := (st.1 54 x2.toNatClampNeg)) hx hb hC hP hS (ow_q11_6) rfl (isS_in c_4) rfl (we_11_6 st x4.toNatClampNeg (st.1 54 x2.toNatClampNeg)) dX4_join_162 (fun H locs hP hS => ?_)
              obtain ⟨st7, e7⟩ : ∃ z, z = (ow_si st 54 x4.toNatClampNeg (st.1 54 x2.toNatClampNeg)) := ⟨_, rfl⟩
              rw [← e7] at hP
              refine lv_aload_n hx hb dX4_join_163 rfl (lv_at hl 2 rfl) ?_
              refine og_get (C := RX4) (T := TX4) (N := 19) (g := 10) (i := 0) (v := .ref (ad 11 7)) hx hb hts li_X4_join_X4 hown hC hP (ow_q10_0) rfl rfl 10 (by decide) (hts _ lk_X4_join_3) rfl rfl dX4_join_164 ?_
              refine lv_iload hx hb dX4_join_167 (lv_at hl 6 rfl) ?_
              refine lv_iload hx hb dX4_join_169 (lv_at hl 0 rfl) ?_
              refine og_iast (g := 11) (i := 7) (j := x4.toNatClampNeg) (v := ((st.1 55 x2.toNatClampNeg) ||| (st.1 55 x3.toNatClampNeg))) hx hb hC hP hS (ow_q11_7) rfl (isS_in c_4) rfl (we_11_7 st7 x4.toNatClampNeg ((st.1 55 x2.toNatClampNeg) ||| (st.1 55 x3.toNatClampNeg))) dX4_join_171 (fun H locs hP hS => ?_)
              obtain ⟨st8, e8⟩ : ∃ z, z = (ow_si st7 55 x4.toNatClampNeg ((st.1 55 x2.toNatClampNeg) ||| (st.1 55 x3.toNatClampNeg))) := ⟨_, rfl⟩
              rw [← e8] at hP
              refine lv_iload hx hb dX4_join_172 (lv_at hl 0 rfl) ?_
              refine og_ciP (og_runS (As := [.int ((st.1 55 x2.toNatClampNeg) ||| (st.1 55 x3.toNatClampNeg))]) (rest := []) ⟨hx, hb, hml, hown, hts⟩ (kX4_size l D ca ad A st8 ((st.1 55 x2.toNatClampNeg) ||| (st.1 55 x3.toNatClampNeg))) (va_cwS 1 hts gX4_join_X4_size rfl rfl rfl (by decide +kernel) ⟨Nat.le_of_ble_eq_true rfl, Nat.le_of_ble_eq_true rfl⟩) hC hP hS rfl hl.1 rfl (Nat.le_of_ble_eq_true rfl) dX4_join_174 ⟨Nat.zero_le _, Nat.zero_le _⟩) hS (fun H locs hP hS => ?_)
              exact W.iret (v := (fX4_size st8 ((st.1 55 x2.toNatClampNeg) ||| (st.1 55 x3.toNatClampNeg)))) hx hb hr (fun t ht hW => ⟨⟨(fX4_size st8 ((st.1 55 x2.toNatClampNeg) ||| (st.1 55 x3.toNatClampNeg))), st8, rfl, (by subst e8; subst e7; simp only [fX4_join, if_neg c_1, if_neg c_2, if_neg c_3, if_neg c_4, if_pos c_5, if_pos c_6]), ow_Bi ht hP⟩, hS.F ht⟩) hS.2.2 dX4_join_177
          · refine lv_aload_n hx hb dX4_join_38 rfl (lv_at hl 0 rfl) ?_
            refine og_get (C := RX4) (T := TX4) (N := 19) (g := 10) (i := 0) (v := .ref (ad 11 6)) hx hb hts li_X4_join_X4 hown hC hP (ow_q10_0) rfl rfl 9 (by decide) (hts _ lk_X4_join_2) rfl rfl dX4_join_39 ?_
            refine lv_iload_n hx hb dX4_join_42 rfl (lv_at hl 2 rfl) ?_
            refine og_iald (g := 11) (i := 6) (j := x2.toNatClampNeg) (v := (st.1 54 x2.toNatClampNeg)) hx hb hC hP (ow_q11_6) rfl (isS_in c_2) rfl rfl dX4_join_43 ?_
            refine lv_aload_n hx hb dX4_join_44 rfl (lv_at hl 0 rfl) ?_
            refine og_get (C := RX4) (T := TX4) (N := 19) (g := 10) (i := 0) (v := .ref (ad 11 6)) hx hb hts li_X4_join_X4 hown hC hP (ow_q10_0) rfl rfl 9 (by decide) (hts _ lk_X4_join_2) rfl rfl dX4_join_45 ?_
            refine lv_iload_n hx hb dX4_join_48 rfl (lv_at hl 3 rfl) ?_
            refine og_iald (g := 11) (i := 6) (j := x3.toNatClampNeg) (v := (st.1 54 x3.toNatClampNeg)) hx hb hC hP (ow_q11_6) rfl (isS_in c_3) rfl rfl dX4_join_49 ?_
            refine lv_icmp_eq (tgt := 56) hx hb dX4_join_50 (by decide) (fun c_17 => ?_) (fun c_17 => ?_)
            · refine lv_iconst (v := 1) hx hb dX4_join_56 (by decide) ?_
              refine lv_aload_n hx hb dX4_join_57 rfl (lv_at hl 0 rfl) ?_
              refine og_get (C := RX4) (T := TX4) (N := 19) (g := 10) (i := 0) (v := .ref (ad 11 0)) hx hb hts li_X4_join_X4 hown hC hP (ow_q10_0) rfl rfl 0 (by decide) (hts _ lk_X4_join_1) rfl rfl dX4_join_58 ?_
              refine lv_aload_n hx hb dX4_join_61 rfl (lv_at hl 0 rfl) ?_
              refine og_get (C := RX4) (T := TX4) (N := 19) (g := 10) (i := 0) (v := .ref (ad 11 6)) hx hb hts li_X4_join_X4 hown hC hP (ow_q10_0) rfl rfl 9 (by decide) (hts _ lk_X4_join_2) rfl rfl dX4_join_62 ?_
              refine lv_iload_n hx hb dX4_join_65 rfl (lv_at hl 2 rfl) ?_
              refine og_iald (g := 11) (i := 6) (j := x2.toNatClampNeg) (v := (st.1 54 x2.toNatClampNeg)) hx hb hC hP (ow_q11_6) rfl (isS_in c_2) rfl rfl dX4_join_66 ?_
              refine og_iald (g := 11) (i := 0) (j := ((st.1 54 x2.toNatClampNeg).toNatClampNeg)) (v := (ow_mny ((st.1 54 x2.toNatClampNeg).toNatClampNeg))) hx hb hC hP (ow_q11_0) rfl (hms _ (vp_lt (isS_in c_2))) rfl rfl dX4_join_67 ?_
              refine lv_ishl hx hb dX4_join_68 ?_
              refine lv_iconst (v := 1) hx hb dX4_join_69 (by decide) ?_
              refine lv_isub hx hb dX4_join_70 ?_
              refine lv_istore (lv' := [(5, .int ((1 <<< ((ow_mny ((st.1 54 x2.toNatClampNeg).toNatClampNeg)) &&& 31)) - 1)), (0, .ref (ad 10 0)), (1, .int x1), (2, .int x2), (3, .int x3), (4, .int x4)]) hx hb dX4_join_71 hl (by decide) rfl (fun ls hl => ?_)
              refine lv_iload_n hx hb dX4_join_73 rfl (lv_at hl 2 rfl) ?_
              refine lv_if_ne (tgt := 93) hx hb dX4_join_74 (by decide) (fun c_18 => ?_) (fun c_18 => ?_)
              · refine lv_iload_n hx hb dX4_join_93 rfl (lv_at hl 2 rfl) ?_
                refine lv_iconst (v := 1) hx hb dX4_join_94 (by decide) ?_
                refine lv_icmp_ne (tgt := 114) hx hb dX4_join_95 (by decide) (fun c_21 => ?_) (fun c_21 => ?_)
                · refine lv_iload_n hx hb dX4_join_114 rfl (lv_at hl 2 rfl) ?_
                  refine lv_iconst (v := 2) hx hb dX4_join_115 (by decide) ?_
                  refine lv_icmp_ne (tgt := 137) hx hb dX4_join_116 (by decide) (fun c_24 => ?_) (fun c_24 => ?_)
                  · refine lv_iload hx hb dX4_join_137 (lv_at hl 0 rfl) ?_
                    refine lv_aload_n hx hb dX4_join_139 rfl (lv_at hl 1 rfl) ?_
                    refine og_get (C := RX4) (T := TX4) (N := 19) (g := 10) (i := 0) (v := .ref (ad 11 7)) hx hb hts li_X4_join_X4 hown hC hP (ow_q10_0) rfl rfl 10 (by decide) (hts _ lk_X4_join_3) rfl rfl dX4_join_140 ?_
                    refine lv_iload_n hx hb dX4_join_143 rfl (lv_at hl 3 rfl) ?_
                    refine og_iald (g := 11) (i := 7) (j := x2.toNatClampNeg) (v := (st.1 55 x2.toNatClampNeg)) hx hb hC hP (ow_q11_7) rfl (isS_in c_2) rfl rfl dX4_join_144 ?_
                    refine lv_iconst (v := (-1)) hx hb dX4_join_145 (by decide) ?_
                    refine lv_ixor hx hb dX4_join_146 ?_
                    refine lv_iand hx hb dX4_join_147 ?_
                    refine lv_istore (lv' := [(6, .int (((1 <<< ((ow_mny ((st.1 54 x2.toNatClampNeg).toNatClampNeg)) &&& 31)) - 1) &&& ((st.1 55 x2.toNatClampNeg) ^^^ (-1)))), (5, .int ((1 <<< ((ow_mny ((st.1 54 x2.toNatClampNeg).toNatClampNeg)) &&& 31)) - 1)), (0, .ref (ad 10 0)), (1, .int x1), (2, .int x2), (3, .int x3), (4, .int x4)]) hx hb dX4_join_148 hl (by decide) rfl (fun ls hl => ?_)
                    refine lv_aload_n hx hb dX4_join_150 rfl (lv_at hl 2 rfl) ?_
                    refine og_get (C := RX4) (T := TX4) (N := 19) (g := 10) (i := 0) (v := .ref (ad 11 6)) hx hb hts li_X4_join_X4 hown hC hP (ow_q10_0) rfl rfl 9 (by decide) (hts _ lk_X4_join_2) rfl rfl dX4_join_151 ?_
                    refine lv_iload hx hb dX4_join_154 (lv_at hl 6 rfl) ?_
                    refine lv_aload_n hx hb dX4_join_156 rfl (lv_at hl 2 rfl) ?_
                    refine og_get (C := RX4) (T := TX4) (N := 19) (g := 10) (i := 0) (v := .ref (ad 11 6)) hx hb hts li_X4_join_X4 hown hC hP (ow_q10_0) rfl rfl 9 (by decide) (hts _ lk_X4_join_2) rfl rfl dX4_join_157 ?_
                    refine lv_iload_n hx hb dX4_join_160 rfl (lv_at hl 4 rfl) ?_
                    refine og_iald (g := 11) (i := 6) (j := x2.toNatClampNeg) (v := (st.1 54 x2.toNatClampNeg)) hx hb hC hP (ow_q11_6) rfl (isS_in c_2) rfl rfl dX4_join_161 ?_
                    refine og_iast (g := 11) (i := 6) (j := x4.toNatClampNeg) (v := (st.1 54 x2.toNatClampNeg)) hx hb hC hP hS (ow_q11_6) rfl (isS_in c_4) rfl (we_11_6 st x4.toNatClampNeg (st.1 54 x2.toNatClampNeg)) dX4_join_162 (fun H locs hP hS => ?_)
                    obtain ⟨st27, e27⟩ : ∃ z, z = (ow_si st 54 x4.toNatClampNeg (st.1 54 x2.toNatClampNeg)) := ⟨_, rfl⟩
                    rw [← e27] at hP
                    refine lv_aload_n hx hb dX4_join_163 rfl (lv_at hl 2 rfl) ?_
                    refine og_get (C := RX4) (T := TX4) (N := 19) (g := 10) (i := 0) (v := .ref (ad 11 7)) hx hb hts li_X4_join_X4 hown hC hP (ow_q10_0) rfl rfl 10 (by decide) (hts _ lk_X4_join_3) rfl rfl dX4_join_164 ?_
                    refine lv_iload hx hb dX4_join_167 (lv_at hl 6 rfl) ?_
                    refine lv_iload hx hb dX4_join_169 (lv_at hl 0 rfl) ?_
                    refine og_iast (g := 11) (i := 7) (j := x4.toNatClampNeg) (v := (((1 <<< ((ow_mny ((st.1 54 x2.toNatClampNeg).toNatClampNeg)) &&& 31)) - 1) &&& ((st.1 55 x2.toNatClampNeg) ^^^ (-1)))) hx hb hC hP hS (ow_q11_7) rfl (isS_in c_4) rfl (we_11_7 st27 x4.toNatClampNeg (((1 <<< ((ow_mny ((st.1 54 x2.toNatClampNeg).toNatClampNeg)) &&& 31)) - 1) &&& ((st.1 55 x2.toNatClampNeg) ^^^ (-1)))) dX4_join_171 (fun H locs hP hS => ?_)
                    obtain ⟨st28, e28⟩ : ∃ z, z = (ow_si st27 55 x4.toNatClampNeg (((1 <<< ((ow_mny ((st.1 54 x2.toNatClampNeg).toNatClampNeg)) &&& 31)) - 1) &&& ((st.1 55 x2.toNatClampNeg) ^^^ (-1)))) := ⟨_, rfl⟩
                    rw [← e28] at hP
                    refine lv_iload hx hb dX4_join_172 (lv_at hl 0 rfl) ?_
                    refine og_ciP (og_runS (As := [.int (((1 <<< ((ow_mny ((st.1 54 x2.toNatClampNeg).toNatClampNeg)) &&& 31)) - 1) &&& ((st.1 55 x2.toNatClampNeg) ^^^ (-1)))]) (rest := []) ⟨hx, hb, hml, hown, hts⟩ (kX4_size l D ca ad A st28 (((1 <<< ((ow_mny ((st.1 54 x2.toNatClampNeg).toNatClampNeg)) &&& 31)) - 1) &&& ((st.1 55 x2.toNatClampNeg) ^^^ (-1)))) (va_cwS 1 hts gX4_join_X4_size rfl rfl rfl (by decide +kernel) ⟨Nat.le_of_ble_eq_true rfl, Nat.le_of_ble_eq_true rfl⟩) hC hP hS rfl hl.1 rfl (Nat.le_of_ble_eq_true rfl) dX4_join_174 ⟨Nat.zero_le _, Nat.zero_le _⟩) hS (fun H locs hP hS => ?_)
                    exact W.iret (v := (fX4_size st28 (((1 <<< ((ow_mny ((st.1 54 x2.toNatClampNeg).toNatClampNeg)) &&& 31)) - 1) &&& ((st.1 55 x2.toNatClampNeg) ^^^ (-1))))) hx hb hr (fun t ht hW => ⟨⟨(fX4_size st28 (((1 <<< ((ow_mny ((st.1 54 x2.toNatClampNeg).toNatClampNeg)) &&& 31)) - 1) &&& ((st.1 55 x2.toNatClampNeg) ^^^ (-1)))), st28, rfl, (by subst e28; subst e27; simp only [fX4_join, if_neg c_1, if_neg c_2, if_neg c_3, if_neg c_4, if_neg c_5, if_pos c_17, if_neg c_18, if_neg c_21, if_neg c_24]), ow_Bi ht hP⟩, hS.F ht⟩) hS.2.2 dX4_join_177
                  · refine lv_aload_n hx hb dX4_join_119 rfl (lv_at hl 1 rfl) ?_
                    refine og_get (C := RX4) (T := TX4) (N := 19) (g := 10) (i := 0) (v := .ref (ad 11 7)) hx hb hts li_X4_join_X4 hown hC hP (ow_q10_0) rfl rfl 10 (by decide) (hts _ lk_X4_join_3) rfl rfl dX4_join_120 ?_
                    refine lv_iload_n hx hb dX4_join_123 rfl (lv_at hl 3 rfl) ?_
                    refine og_iald (g := 11) (i := 7) (j := x2.toNatClampNeg) (v := (st.1 55 x2.toNatClampNeg)) hx hb hC hP (ow_q11_7) rfl (isS_in c_2) rfl rfl dX4_join_124 ?_
                    refine lv_aload_n hx hb dX4_join_125 rfl (lv_at hl 1 rfl) ?_
                    refine og_get (C := RX4) (T := TX4) (N := 19) (g := 10) (i := 0) (v := .ref (ad 11 7)) hx hb hts li_X4_join_X4 hown hC hP (ow_q10_0) rfl rfl 10 (by decide) (hts _ lk_X4_join_3) rfl rfl dX4_join_126 ?_
                    refine lv_iload_n hx hb dX4_join_129 rfl (lv_at hl 4 rfl) ?_
                    refine og_iald (g := 11) (i := 7) (j := x3.toNatClampNeg) (v := (st.1 55 x3.toNatClampNeg)) hx hb hC hP (ow_q11_7) rfl (isS_in c_3) rfl rfl dX4_join_130 ?_
                    refine lv_iconst (v := (-1)) hx hb dX4_join_131 (by decide) ?_
                    refine lv_ixor hx hb dX4_join_132 ?_
                    refine lv_iand hx hb dX4_join_133 ?_
                    refine lv_goto (tgt := 148) hx hb dX4_join_134 (by decide) ?_
                    refine lv_istore (lv' := [(6, .int ((st.1 55 x2.toNatClampNeg) &&& ((st.1 55 x3.toNatClampNeg) ^^^ (-1)))), (5, .int ((1 <<< ((ow_mny ((st.1 54 x2.toNatClampNeg).toNatClampNeg)) &&& 31)) - 1)), (0, .ref (ad 10 0)), (1, .int x1), (2, .int x2), (3, .int x3), (4, .int x4)]) hx hb dX4_join_148 hl (by decide) rfl (fun ls hl => ?_)
                    refine lv_aload_n hx hb dX4_join_150 rfl (lv_at hl 2 rfl) ?_
                    refine og_get (C := RX4) (T := TX4) (N := 19) (g := 10) (i := 0) (v := .ref (ad 11 6)) hx hb hts li_X4_join_X4 hown hC hP (ow_q10_0) rfl rfl 9 (by decide) (hts _ lk_X4_join_2) rfl rfl dX4_join_151 ?_
                    refine lv_iload hx hb dX4_join_154 (lv_at hl 6 rfl) ?_
                    refine lv_aload_n hx hb dX4_join_156 rfl (lv_at hl 2 rfl) ?_
                    refine og_get (C := RX4) (T := TX4) (N := 19) (g := 10) (i := 0) (v := .ref (ad 11 6)) hx hb hts li_X4_join_X4 hown hC hP (ow_q10_0) rfl rfl 9 (by decide) (hts _ lk_X4_join_2) rfl rfl dX4_join_157 ?_
                    refine lv_iload_n hx hb dX4_join_160 rfl (lv_at hl 4 rfl) ?_
                    refine og_iald (g := 11) (i := 6) (j := x2.toNatClampNeg) (v := (st.1 54 x2.toNatClampNeg)) hx hb hC hP (ow_q11_6) rfl (isS_in c_2) rfl rfl dX4_join_161 ?_
                    refine og_iast (g := 11) (i := 6) (j := x4.toNatClampNeg) (v := (st.1 54 x2.toNatClampNeg)) hx hb hC hP hS (ow_q11_6) rfl (isS_in c_4) rfl (we_11_6 st x4.toNatClampNeg (st.1 54 x2.toNatClampNeg)) dX4_join_162 (fun H locs hP hS => ?_)
                    obtain ⟨st25, e25⟩ : ∃ z, z = (ow_si st 54 x4.toNatClampNeg (st.1 54 x2.toNatClampNeg)) := ⟨_, rfl⟩
                    rw [← e25] at hP
                    refine lv_aload_n hx hb dX4_join_163 rfl (lv_at hl 2 rfl) ?_
                    refine og_get (C := RX4) (T := TX4) (N := 19) (g := 10) (i := 0) (v := .ref (ad 11 7)) hx hb hts li_X4_join_X4 hown hC hP (ow_q10_0) rfl rfl 10 (by decide) (hts _ lk_X4_join_3) rfl rfl dX4_join_164 ?_
                    refine lv_iload hx hb dX4_join_167 (lv_at hl 6 rfl) ?_
                    refine lv_iload hx hb dX4_join_169 (lv_at hl 0 rfl) ?_
                    refine og_iast (g := 11) (i := 7) (j := x4.toNatClampNeg) (v := ((st.1 55 x2.toNatClampNeg) &&& ((st.1 55 x3.toNatClampNeg) ^^^ (-1)))) hx hb hC hP hS (ow_q11_7) rfl (isS_in c_4) rfl (we_11_7 st25 x4.toNatClampNeg ((st.1 55 x2.toNatClampNeg) &&& ((st.1 55 x3.toNatClampNeg) ^^^ (-1)))) dX4_join_171 (fun H locs hP hS => ?_)
                    obtain ⟨st26, e26⟩ : ∃ z, z = (ow_si st25 55 x4.toNatClampNeg ((st.1 55 x2.toNatClampNeg) &&& ((st.1 55 x3.toNatClampNeg) ^^^ (-1)))) := ⟨_, rfl⟩
                    rw [← e26] at hP
                    refine lv_iload hx hb dX4_join_172 (lv_at hl 0 rfl) ?_
                    refine og_ciP (og_runS (As := [.int ((st.1 55 x2.toNatClampNeg) &&& ((st.1 55 x3.toNatClampNeg) ^^^ (-1)))]) (rest := []) ⟨hx, hb, hml, hown, hts⟩ (kX4_size l D ca ad A st26 ((st.1 55 x2.toNatClampNeg) &&& ((st.1 55 x3.toNatClampNeg) ^^^ (-1)))) (va_cwS 1 hts gX4_join_X4_size rfl rfl rfl (by decide +kernel) ⟨Nat.le_of_ble_eq_true rfl, Nat.le_of_ble_eq_true rfl⟩) hC hP hS rfl hl.1 rfl (Nat.le_of_ble_eq_true rfl) dX4_join_174 ⟨Nat.zero_le _, Nat.zero_le _⟩) hS (fun H locs hP hS => ?_)
                    exact W.iret (v := (fX4_size st26 ((st.1 55 x2.toNatClampNeg) &&& ((st.1 55 x3.toNatClampNeg) ^^^ (-1))))) hx hb hr (fun t ht hW => ⟨⟨(fX4_size st26 ((st.1 55 x2.toNatClampNeg) &&& ((st.1 55 x3.toNatClampNeg) ^^^ (-1)))), st26, rfl, (by subst e26; subst e25; simp only [fX4_join, if_neg c_1, if_neg c_2, if_neg c_3, if_neg c_4, if_neg c_5, if_pos c_17, if_neg c_18, if_neg c_21, if_pos c_24]), ow_Bi ht hP⟩, hS.F ht⟩) hS.2.2 dX4_join_177
                · refine lv_aload_n hx hb dX4_join_98 rfl (lv_at hl 1 rfl) ?_
                  refine og_get (C := RX4) (T := TX4) (N := 19) (g := 10) (i := 0) (v := .ref (ad 11 7)) hx hb hts li_X4_join_X4 hown hC hP (ow_q10_0) rfl rfl 10 (by decide) (hts _ lk_X4_join_3) rfl rfl dX4_join_99 ?_
                  refine lv_iload_n hx hb dX4_join_102 rfl (lv_at hl 3 rfl) ?_
                  refine og_iald (g := 11) (i := 7) (j := x2.toNatClampNeg) (v := (st.1 55 x2.toNatClampNeg)) hx hb hC hP (ow_q11_7) rfl (isS_in c_2) rfl rfl dX4_join_103 ?_
                  refine lv_aload_n hx hb dX4_join_104 rfl (lv_at hl 1 rfl) ?_
                  refine og_get (C := RX4) (T := TX4) (N := 19) (g := 10) (i := 0) (v := .ref (ad 11 7)) hx hb hts li_X4_join_X4 hown hC hP (ow_q10_0) rfl rfl 10 (by decide) (hts _ lk_X4_join_3) rfl rfl dX4_join_105 ?_
                  refine lv_iload_n hx hb dX4_join_108 rfl (lv_at hl 4 rfl) ?_
                  refine og_iald (g := 11) (i := 7) (j := x3.toNatClampNeg) (v := (st.1 55 x3.toNatClampNeg)) hx hb hC hP (ow_q11_7) rfl (isS_in c_3) rfl rfl dX4_join_109 ?_
                  refine lv_iand hx hb dX4_join_110 ?_
                  refine lv_goto (tgt := 148) hx hb dX4_join_111 (by decide) ?_
                  refine lv_istore (lv' := [(6, .int ((st.1 55 x2.toNatClampNeg) &&& (st.1 55 x3.toNatClampNeg))), (5, .int ((1 <<< ((ow_mny ((st.1 54 x2.toNatClampNeg).toNatClampNeg)) &&& 31)) - 1)), (0, .ref (ad 10 0)), (1, .int x1), (2, .int x2), (3, .int x3), (4, .int x4)]) hx hb dX4_join_148 hl (by decide) rfl (fun ls hl => ?_)
                  refine lv_aload_n hx hb dX4_join_150 rfl (lv_at hl 2 rfl) ?_
                  refine og_get (C := RX4) (T := TX4) (N := 19) (g := 10) (i := 0) (v := .ref (ad 11 6)) hx hb hts li_X4_join_X4 hown hC hP (ow_q10_0) rfl rfl 9 (by decide) (hts _ lk_X4_join_2) rfl rfl dX4_join_151 ?_
                  refine lv_iload hx hb dX4_join_154 (lv_at hl 6 rfl) ?_
                  refine lv_aload_n hx hb dX4_join_156 rfl (lv_at hl 2 rfl) ?_
                  refine og_get (C := RX4) (T := TX4) (N := 19) (g := 10) (i := 0) (v := .ref (ad 11 6)) hx hb hts li_X4_join_X4 hown hC hP (ow_q10_0) rfl rfl 9 (by decide) (hts _ lk_X4_join_2) rfl rfl dX4_join_157 ?_
                  refine lv_iload_n hx hb dX4_join_160 rfl (lv_at hl 4 rfl) ?_
                  refine og_iald (g := 11) (i := 6) (j := x2.toNatClampNeg) (v := (st.1 54 x2.toNatClampNeg)) hx hb hC hP (ow_q11_6) rfl (isS_in c_2) rfl rfl dX4_join_161 ?_
                  refine og_iast (g := 11) (i := 6) (j := x4.toNatClampNeg) (v := (st.1 54 x2.toNatClampNeg)) hx hb hC hP hS (ow_q11_6) rfl (isS_in c_4) rfl (we_11_6 st x4.toNatClampNeg (st.1 54 x2.toNatClampNeg)) dX4_join_162 (fun H locs hP hS => ?_)
                  obtain ⟨st22, e22⟩ : ∃ z, z = (ow_si st 54 x4.toNatClampNeg (st.1 54 x2.toNatClampNeg)) := ⟨_, rfl⟩
                  rw [← e22] at hP
                  refine lv_aload_n hx hb dX4_join_163 rfl (lv_at hl 2 rfl) ?_
                  refine og_get (C := RX4) (T := TX4) (N := 19) (g := 10) (i := 0) (v := .ref (ad 11 7)) hx hb hts li_X4_join_X4 hown hC hP (ow_q10_0) rfl rfl 10 (by decide) (hts _ lk_X4_join_3) rfl rfl dX4_join_164 ?_
                  refine lv_iload hx hb dX4_join_167 (lv_at hl 6 rfl) ?_
                  refine lv_iload hx hb dX4_join_169 (lv_at hl 0 rfl) ?_
                  refine og_iast (g := 11) (i := 7) (j := x4.toNatClampNeg) (v := ((st.1 55 x2.toNatClampNeg) &&& (st.1 55 x3.toNatClampNeg))) hx hb hC hP hS (ow_q11_7) rfl (isS_in c_4) rfl (we_11_7 st22 x4.toNatClampNeg ((st.1 55 x2.toNatClampNeg) &&& (st.1 55 x3.toNatClampNeg))) dX4_join_171 (fun H locs hP hS => ?_)
                  obtain ⟨st23, e23⟩ : ∃ z, z = (ow_si st22 55 x4.toNatClampNeg ((st.1 55 x2.toNatClampNeg) &&& (st.1 55 x3.toNatClampNeg))) := ⟨_, rfl⟩
                  rw [← e23] at hP
                  refine lv_iload hx hb dX4_join_172 (lv_at hl 0 rfl) ?_
                  refine og_ciP (og_runS (As := [.int ((st.1 55 x2.toNatClampNeg) &&& (st.1 55 x3.toNatClampNeg))]) (rest := []) ⟨hx, hb, hml, hown, hts⟩ (kX4_size l D ca ad A st23 ((st.1 55 x2.toNatClampNeg) &&& (st.1 55 x3.toNatClampNeg))) (va_cwS 1 hts gX4_join_X4_size rfl rfl rfl (by decide +kernel) ⟨Nat.le_of_ble_eq_true rfl, Nat.le_of_ble_eq_true rfl⟩) hC hP hS rfl hl.1 rfl (Nat.le_of_ble_eq_true rfl) dX4_join_174 ⟨Nat.zero_le _, Nat.zero_le _⟩) hS (fun H locs hP hS => ?_)
                  exact W.iret (v := (fX4_size st23 ((st.1 55 x2.toNatClampNeg) &&& (st.1 55 x3.toNatClampNeg)))) hx hb hr (fun t ht hW => ⟨⟨(fX4_size st23 ((st.1 55 x2.toNatClampNeg) &&& (st.1 55 x3.toNatClampNeg))), st23, rfl, (by subst e23; subst e22; simp only [fX4_join, if_neg c_1, if_neg c_2, if_neg c_3, if_neg c_4, if_neg c_5, if_pos c_17, if_neg c_18, if_pos c_21]), ow_Bi ht hP⟩, hS.F ht⟩) hS.2.2 dX4_join_177
              · refine lv_aload_n hx hb dX4_join_77 rfl (lv_at hl 1 rfl) ?_
                refine og_get (C := RX4) (T := TX4) (N := 19) (g := 10) (i := 0) (v := .ref (ad 11 7)) hx hb hts li_X4_join_X4 hown hC hP (ow_q10_0) rfl rfl 10 (by decide) (hts _ lk_X4_join_3) rfl rfl dX4_join_78 ?_
                refine lv_iload_n hx hb dX4_join_81 rfl (lv_at hl 3 rfl) ?_
                refine og_iald (g := 11) (i := 7) (j := x2.toNatClampNeg) (v := (st.1 55 x2.toNatClampNeg)) hx hb hC hP (ow_q11_7) rfl (isS_in c_2) rfl rfl dX4_join_82 ?_
                refine lv_aload_n hx hb dX4_join_83 rfl (lv_at hl 1 rfl) ?_
                refine og_get (C := RX4) (T := TX4) (N := 19) (g := 10) (i := 0) (v := .ref (ad 11 7)) hx hb hts li_X4_join_X4 hown hC hP (ow_q10_0) rfl rfl 10 (by decide) (hts _ lk_X4_join_3) rfl rfl dX4_join_84 ?_
                refine lv_iload_n hx hb dX4_join_87 rfl (lv_at hl 4 rfl) ?_
                refine og_iald (g := 11) (i := 7) (j := x3.toNatClampNeg) (v := (st.1 55 x3.toNatClampNeg)) hx hb hC hP (ow_q11_7) rfl (isS_in c_3) rfl rfl dX4_join_88 ?_
                refine lv_ior hx hb dX4_join_89 ?_
                refine lv_goto (tgt := 148) hx hb dX4_join_90 (by decide) ?_
                refine lv_istore (lv' := [(6, .int ((st.1 55 x2.toNatClampNeg) ||| (st.1 55 x3.toNatClampNeg))), (5, .int ((1 <<< ((ow_mny ((st.1 54 x2.toNatClampNeg).toNatClampNeg)) &&& 31)) - 1)), (0, .ref (ad 10 0)), (1, .int x1), (2, .int x2), (3, .int x3), (4, .int x4)]) hx hb dX4_join_148 hl (by decide) rfl (fun ls hl => ?_)
                refine lv_aload_n hx hb dX4_join_150 rfl (lv_at hl 2 rfl) ?_
                refine og_get (C := RX4) (T := TX4) (N := 19) (g := 10) (i := 0) (v := .ref (ad 11 6)) hx hb hts li_X4_join_X4 hown hC hP (ow_q10_0) rfl rfl 9 (by decide) (hts _ lk_X4_join_2) rfl rfl dX4_join_151 ?_
                refine lv_iload hx hb dX4_join_154 (lv_at hl 6 rfl) ?_
                refine lv_aload_n hx hb dX4_join_156 rfl (lv_at hl 2 rfl) ?_
                refine og_get (C := RX4) (T := TX4) (N := 19) (g := 10) (i := 0) (v := .ref (ad 11 6)) hx hb hts li_X4_join_X4 hown hC hP (ow_q10_0) rfl rfl 9 (by decide) (hts _ lk_X4_join_2) rfl rfl dX4_join_157 ?_
                refine lv_iload_n hx hb dX4_join_160 rfl (lv_at hl 4 rfl) ?_
                refine og_iald (g := 11) (i := 6) (j := x2.toNatClampNeg) (v := (st.1 54 x2.toNatClampNeg)) hx hb hC hP (ow_q11_6) rfl (isS_in c_2) rfl rfl dX4_join_161 ?_
                refine og_iast (g := 11) (i := 6) (j := x4.toNatClampNeg) (v := (st.1 54 x2.toNatClampNeg)) hx hb hC hP hS (ow_q11_6) rfl (isS_in c_4) rfl (we_11_6 st x4.toNatClampNeg (st.1 54 x2.toNatClampNeg)) dX4_join_162 (fun H locs hP hS => ?_)
                obtain ⟨st19, e19⟩ : ∃ z, z = (ow_si st 54 x4.toNatClampNeg (st.1 54 x2.toNatClampNeg)) := ⟨_, rfl⟩
                rw [← e19] at hP
                refine lv_aload_n hx hb dX4_join_163 rfl (lv_at hl 2 rfl) ?_
                refine og_get (C := RX4) (T := TX4) (N := 19) (g := 10) (i := 0) (v := .ref (ad 11 7)) hx hb hts li_X4_join_X4 hown hC hP (ow_q10_0) rfl rfl 10 (by decide) (hts _ lk_X4_join_3) rfl rfl dX4_join_164 ?_
                refine lv_iload hx hb dX4_join_167 (lv_at hl 6 rfl) ?_
                refine lv_iload hx hb dX4_join_169 (lv_at hl 0 rfl) ?_
                refine og_iast (g := 11) (i := 7) (j := x4.toNatClampNeg) (v := ((st.1 55 x2.toNatClampNeg) ||| (st.1 55 x3.toNatClampNeg))) hx hb hC hP hS (ow_q11_7) rfl (isS_in c_4) rfl (we_11_7 st19 x4.toNatClampNeg ((st.1 55 x2.toNatClampNeg) ||| (st.1 55 x3.toNatClampNeg))) dX4_join_171 (fun H locs hP hS => ?_)
                obtain ⟨st20, e20⟩ : ∃ z, z = (ow_si st19 55 x4.toNatClampNeg ((st.1 55 x2.toNatClampNeg) ||| (st.1 55 x3.toNatClampNeg))) := ⟨_, rfl⟩
                rw [← e20] at hP
                refine lv_iload hx hb dX4_join_172 (lv_at hl 0 rfl) ?_
                refine og_ciP (og_runS (As := [.int ((st.1 55 x2.toNatClampNeg) ||| (st.1 55 x3.toNatClampNeg))]) (rest := []) ⟨hx, hb, hml, hown, hts⟩ (kX4_size l D ca ad A st20 ((st.1 55 x2.toNatClampNeg) ||| (st.1 55 x3.toNatClampNeg))) (va_cwS 1 hts gX4_join_X4_size rfl rfl rfl (by decide +kernel) ⟨Nat.le_of_ble_eq_true rfl, Nat.le_of_ble_eq_true rfl⟩) hC hP hS rfl hl.1 rfl (Nat.le_of_ble_eq_true rfl) dX4_join_174 ⟨Nat.zero_le _, Nat.zero_le _⟩) hS (fun H locs hP hS => ?_)
                exact W.iret (v := (fX4_size st20 ((st.1 55 x2.toNatClampNeg) ||| (st.1 55 x3.toNatClampNeg)))) hx hb hr (fun t ht hW => ⟨⟨(fX4_size st20 ((st.1 55 x2.toNatClampNeg) ||| (st.1 55 x3.toNatClampNeg))), st20, rfl, (by subst e20; subst e19; simp only [fX4_join, if_neg c_1, if_neg c_2, if_neg c_3, if_neg c_4, if_neg c_5, if_pos c_17, if_pos c_18]), ow_Bi ht hP⟩, hS.F ht⟩) hS.2.2 dX4_join_177
            · refine lv_bipush (v := (-3)) hx hb dX4_join_53 (by decide) ?_
              exact W.iret (v := (-3)) hx hb hr (fun t ht hW => ⟨⟨(-3), st, rfl, (by simp only [fX4_join, if_neg c_1, if_neg c_2, if_neg c_3, if_neg c_4, if_neg c_5, if_neg c_17]), ow_Bi ht hP⟩, hS.F ht⟩) hS.2.2 dX4_join_55
        · refine lv_iconst (v := (-1)) hx hb dX4_join_31 (by decide) ?_
          exact W.iret (v := (-1)) hx hb hr (fun t ht hW => ⟨⟨(-1), st, rfl, (by simp only [fX4_join, if_neg c_1, if_neg c_2, if_neg c_3, if_pos c_4]), ow_Bi ht hP⟩, hS.F ht⟩) hS.2.2 dX4_join_32

theorem li_X4_member_X4 : ∀ w ∈ u_ws RX4 TX4 19, w ∈ wsX4_member := by decide +kernel
theorem lk_X4_member_1 : (.fieldLink RX4 7 "RecordLabelsModel" "many" "[I" : Cond) ∈ wsX4_member := by decide +kernel
theorem lk_X4_member_2 : (.fieldLink RX4 54 "RecordLabelsModel" "setKind" "[I" : Cond) ∈ wsX4_member := by decide +kernel
theorem lk_X4_member_3 : (.fieldLink RX4 57 "RecordLabelsModel" "held" "[I" : Cond) ∈ wsX4_member := by decide +kernel
def flX4_member (st : ow_St) (x1 x2 : Int32) : Nat → Nat → Int32 → Int32
  | 0, _, _ => 0
  | n + 1, i, w3 => (if (ow_mny ((st.1 54 x1.toNatClampNeg).toNatClampNeg)) ≤ (nI i) then (-4) else (if (((st.1 55 x1.toNatClampNeg) >>> ((fX4_constant st (st.1 54 x1.toNatClampNeg) (nI i)) &&& 31)) &&& 1) = 1 then (if w3 = x2 then (nI i) else (flX4_member st x1 x2 n (i + 1) (w3 + 1) )) else (flX4_member st x1 x2 n (i + 1) w3 )))
def fX4_member (st : ow_St) (x1 x2 : Int32) : Int32 := (if (fX4_isSet st x1) = 0 then (-1) else (flX4_member st x1 x2 ((mn (st.1 54 x1.toNatClampNeg).toNatClampNeg) + 1) 0 (0 : Int32) ))
set_option maxHeartbeats 4000000 in
set_option maxRecDepth 100000 in
theorem kX4_member (l : Launch) (D : va_G) (ca : Nat → ClassId) (ad : ow_Ad) (A : Nat → Prop) (st : ow_St) (x1 : Int32) (x2 : Int32) (hms : iv_ms st) : Met l yX4_member wsX4_member ({ frames := 3, cells := 0, slots := 0, locals := 66 }) (va_Pc [.ref (ad 10 0), .int x1, .int x2] (ow_W D ca ad A st)) (va_Qi (fun r st' => r = (fX4_member st x1 x2) ∧ st' = st) (ow_B D ca ad) A) 0 0 A := by
  refine Met.ofW (cc := cX4_member) (maxL := 5) (ret := (some .int)) (by decide) rfl ?_
  intro p e s m args below meth c s₁ B hml hv
  obtain ⟨rfl, hP, hC⟩ := hv
  have hx := B.exec
  have hb := B.bytes
  have hr := B.returns
  have hts := atoms_spec (ws := wsX4_member) B.pre
  have hown : s.vm.findClass RX4 = some m.cls := findClass_of_methodNamed B.named
  have hlocks := B.notSynchronized
  have hS : va_S A s.heap s.heap [] := va_S.rf
  have hl := lv_entry ([.ref (ad 10 0), .int x1, .int x2]) (n := 5) (Nat.le_of_ble_eq_true rfl)
  rw [lg_entry_eq]
  generalize (lg_sl ([.ref (ad 10 0), .int x1, .int x2]) ++ List.replicate (5 - (lg_sl ([.ref (ad 10 0), .int x1, .int x2])).length) Slot.unset).toArray = ls at hl ⊢
  have hl : lv_has ls 5 [(0, .ref (ad 10 0)), (1, .int x1), (2, .int x2)] := hl
  refine lv_iload_n hx hb dX4_member_0 rfl (lv_at hl 1 rfl) ?_
  refine og_ciP (og_runS (As := [.int x1]) (rest := []) ⟨hx, hb, hml, hown, hts⟩ (kX4_isSet l D ca ad A st x1) (va_cwS 1 hts gX4_member_X4_isSet rfl rfl rfl (by decide +kernel) ⟨Nat.le_of_ble_eq_true rfl, Nat.le_of_ble_eq_true rfl⟩) hC hP hS rfl hl.1 rfl (Nat.le_of_ble_eq_true rfl) dX4_member_1 ⟨Nat.zero_le _, Nat.zero_le _⟩) hS (fun H locs hP hS => ?_)
  refine lv_if_ne (tgt := 9) hx hb dX4_member_4 (by decide) (fun c_1 => ?_) (fun c_1 => ?_)
  · refine lv_iconst (v := 0) hx hb dX4_member_9 (by decide) ?_
    refine lv_istore_n (lv' := [(3, .int 0), (0, .ref (ad 10 0)), (1, .int x1), (2, .int x2)]) hx hb dX4_member_10 rfl hl (by decide) rfl (fun ls hl => ?_)
    refine lv_iconst (v := 0) hx hb dX4_member_11 (by decide) ?_
    refine lv_istore (lv' := [(4, .int 0), (3, .int 0), (0, .ref (ad 10 0)), (1, .int x1), (2, .int x2)]) hx hb dX4_member_12 hl (by decide) rfl (fun ls hl => ?_)
    have loop : ∀ (n i : Nat) (w3 : Int32) (H : Heap) (locs : List Loc) (ls : Array Slot), i ≤ (mn (st.1 54 x1.toNatClampNeg).toNatClampNeg) → (mn (st.1 54 x1.toNatClampNeg).toNatClampNeg) < i + n → (vp_in (st.1 54 x1.toNatClampNeg) 3) → flX4_member st x1 x2 n i w3 = (fX4_member st x1 x2) → va_P D vwCl (ow_ws ad (ow_c ca ad st)) H → va_S A s.heap H locs → lv_has ls 5 [(4, .int (nI i)), (3, .int w3), (0, .ref (ad 10 0)), (1, .int x1), (2, .int x2)] → W p l e (headSpec wsX4_member ({ frames := 3, cells := 0, slots := 0, locals := 66 } : Room)).room s m ([.ref (ad 10 0), .int x1, .int x2] : List Value).toArray below meth c H locs 0 0 (MQ below (va_Qi (fun r st' => r = (fX4_member st x1 x2) ∧ st' = st) (ow_B D ca ad) A) ([.ref (ad 10 0), .int x1, .int x2] : List Value).toArray s 0 0 A) (F0 m 14 ls []) := by
      intro n
      induction n with
      | zero => intro i w3 H locs ls h1 h2; exact absurd h2 (by omega)
      | succ n ih =>
        intro i w3 H locs ls hle hlt hk3 heq hP hS hl
        refine lv_iload hx hb dX4_member_14 (lv_at hl 0 rfl) ?_
        refine lv_aload_n hx hb dX4_member_16 rfl (lv_at hl 2 rfl) ?_
        refine og_get (C := RX4) (T := TX4) (N := 19) (g := 10) (i := 0) (v := .ref (ad 11 0)) hx hb hts li_X4_member_X4 hown hC hP (ow_q10_0) rfl rfl 0 (by decide) (hts _ lk_X4_member_1) rfl rfl dX4_member_17 ?_
        refine lv_aload_n hx hb dX4_member_20 rfl (lv_at hl 2 rfl) ?_
        refine og_get (C := RX4) (T := TX4) (N := 19) (g := 10) (i := 0) (v := .ref (ad 11 6)) hx hb hts li_X4_member_X4 hown hC hP (ow_q10_0) rfl rfl 9 (by decide) (hts _ lk_X4_member_2) rfl rfl dX4_member_21 ?_
        refine lv_iload_n hx hb dX4_member_24 rfl (lv_at hl 3 rfl) ?_
        refine og_iald (g := 11) (i := 6) (j := x1.toNatClampNeg) (v := (st.1 54 x1.toNatClampNeg)) hx hb hC hP (ow_q11_6) rfl (isS_in c_1) rfl rfl dX4_member_25 ?_
        refine og_iald (g := 11) (i := 0) (j := ((st.1 54 x1.toNatClampNeg).toNatClampNeg)) (v := (ow_mny ((st.1 54 x1.toNatClampNeg).toNatClampNeg))) hx hb hC hP (ow_q11_0) rfl hk3 rfl rfl dX4_member_26 ?_
        refine lv_icmp_ge (tgt := 72) hx hb dX4_member_27 (by decide) (fun c_2 => ?_) (fun c_2 => ?_)
        · refine lv_bipush (v := (-4)) hx hb dX4_member_72 (by decide) ?_
          exact W.iret (v := (-4)) hx hb hr (fun t ht hW => ⟨⟨(-4), st, rfl, ⟨(by rw [← heq]; simp only [flX4_member, if_pos c_2]), rfl⟩, ow_Bi ht hP⟩, hS.F ht⟩) hS.2.2 dX4_member_74
        · refine lv_aload_n hx hb dX4_member_30 rfl (lv_at hl 2 rfl) ?_
          refine og_get (C := RX4) (T := TX4) (N := 19) (g := 10) (i := 0) (v := .ref (ad 11 7)) hx hb hts li_X4_member_X4 hown hC hP (ow_q10_0) rfl rfl 10 (by decide) (hts _ lk_X4_member_3) rfl rfl dX4_member_31 ?_
          refine lv_iload_n hx hb dX4_member_34 rfl (lv_at hl 3 rfl) ?_
          refine og_iald (g := 11) (i := 7) (j := x1.toNatClampNeg) (v := (st.1 55 x1.toNatClampNeg)) hx hb hC hP (ow_q11_7) rfl (isS_in c_1) rfl rfl dX4_member_35 ?_
          refine lv_aload_n hx hb dX4_member_36 rfl (lv_at hl 2 rfl) ?_
          refine lv_aload_n hx hb dX4_member_37 rfl (lv_at hl 2 rfl) ?_
          refine og_get (C := RX4) (T := TX4) (N := 19) (g := 10) (i := 0) (v := .ref (ad 11 6)) hx hb hts li_X4_member_X4 hown hC hP (ow_q10_0) rfl rfl 9 (by decide) (hts _ lk_X4_member_2) rfl rfl dX4_member_38 ?_
          refine lv_iload_n hx hb dX4_member_41 rfl (lv_at hl 3 rfl) ?_
          refine og_iald (g := 11) (i := 6) (j := x1.toNatClampNeg) (v := (st.1 54 x1.toNatClampNeg)) hx hb hC hP (ow_q11_6) rfl (isS_in c_1) rfl rfl dX4_member_42 ?_
          refine lv_iload hx hb dX4_member_43 (lv_at hl 0 rfl) ?_
          refine og_ciP (og_runV (C := RX4) (T := TX4) (N := 19) (g := 10) (i := 0) (As := [.int (st.1 54 x1.toNatClampNeg), .int (nI i)]) (rest := [.int (st.1 55 x1.toNatClampNeg)]) ⟨hx, hb, hml, hown, hts⟩ (kX4_constant l D ca ad A st (st.1 54 x1.toNatClampNeg) (nI i) hk3) (cwV 2 hts gX4_member_X4_constant rfl rfl rfl (by decide +kernel) ⟨Nat.le_of_ble_eq_true rfl, Nat.le_of_ble_eq_true rfl⟩) hC hP hS (ow_q10_0) rfl rfl rfl hl.1 rfl (Nat.le_of_ble_eq_true rfl) dX4_member_45 ⟨Nat.zero_le _, Nat.zero_le _⟩) hS (fun H locs hP hS => ?_)
          refine lv_ishr hx hb dX4_member_48 ?_
          refine lv_iconst (v := 1) hx hb dX4_member_49 (by decide) ?_
          refine lv_iand hx hb dX4_member_50 ?_
          refine lv_iconst (v := 1) hx hb dX4_member_51 (by decide) ?_
          refine lv_icmp_ne (tgt := 66) hx hb dX4_member_52 (by decide) (fun c_3 => ?_) (fun c_3 => ?_)
          · refine lv_iinc (v := (nI (i + 1))) (lv' := [(4, .int (nI (i + 1))), (3, .int w3), (0, .ref (ad 10 0)), (1, .int x1), (2, .int x2)]) hx hb dX4_member_66 hl (k := 0) rfl (nI_1 _) (by decide) rfl (fun ls hl => ?_)
            refine lv_goto (tgt := 14) hx hb dX4_member_69 (by decide) ?_
            exact ih (i + 1) w3  _ _ _ (ow_lt (by rw [← mny_eq (vp_lt hk3)]; exact c_2) hle (ow_mn _)) (by omega) hk3 (by rw [← heq]; simp only [flX4_member, if_neg c_2, if_neg c_3]) hP hS (lv_sub hl [0, 1, 2, 3, 4] rfl)
          · refine lv_iload_n hx hb dX4_member_55 rfl (lv_at hl 1 rfl) ?_
            refine lv_iload_n hx hb dX4_member_56 rfl (lv_at hl 4 rfl) ?_
            refine lv_icmp_ne (tgt := 63) hx hb dX4_member_57 (by decide) (fun c_4 => ?_) (fun c_4 => ?_)
            · refine lv_iinc (v := (w3 + 1)) (lv' := [(3, .int (w3 + 1)), (4, .int (nI i)), (0, .ref (ad 10 0)), (1, .int x1), (2, .int x2)]) hx hb dX4_member_63 hl (k := 1) rfl rfl (by decide) rfl (fun ls hl => ?_)
              refine lv_iinc (v := (nI (i + 1))) (lv' := [(4, .int (nI (i + 1))), (3, .int (w3 + 1)), (0, .ref (ad 10 0)), (1, .int x1), (2, .int x2)]) hx hb dX4_member_66 hl (k := 1) rfl (nI_1 _) (by decide) rfl (fun ls hl => ?_)
              refine lv_goto (tgt := 14) hx hb dX4_member_69 (by decide) ?_
              exact ih (i + 1) (w3 + 1)  _ _ _ (ow_lt (by rw [← mny_eq (vp_lt hk3)]; exact c_2) hle (ow_mn _)) (by omega) hk3 (by rw [← heq]; simp only [flX4_member, if_neg c_2, if_pos c_3, if_neg c_4]) hP hS (lv_sub hl [0, 1, 2, 3, 4] rfl)
            · refine lv_iload hx hb dX4_member_60 (lv_at hl 0 rfl) ?_
              exact W.iret (v := (nI i)) hx hb hr (fun t ht hW => ⟨⟨(nI i), st, rfl, ⟨(by rw [← heq]; simp only [flX4_member, if_neg c_2, if_pos c_3, if_pos c_4]), rfl⟩, ow_Bi ht hP⟩, hS.F ht⟩) hS.2.2 dX4_member_62
    exact loop ((mn (st.1 54 x1.toNatClampNeg).toNatClampNeg) + 1) 0 (0 : Int32)  _ _ _ (Nat.zero_le _) (by omega) (hms _ (vp_lt (isS_in c_1))) (by simp only [fX4_member, if_neg c_1]) hP hS (lv_sub hl [0, 1, 2, 3, 4] rfl)
  · refine lv_iconst (v := (-1)) hx hb dX4_member_7 (by decide) ?_
    exact W.iret (v := (-1)) hx hb hr (fun t ht hW => ⟨⟨(-1), st, rfl, ⟨(by simp only [fX4_member, if_pos c_1]), rfl⟩, ow_Bi ht hP⟩, hS.F ht⟩) hS.2.2 dX4_member_8

theorem li_X4_about_X4 : ∀ w ∈ u_ws RX4 TX4 19, w ∈ wsX4_about := by decide +kernel
theorem lk_X4_about_1 : (.fieldLink RX4 57 "RecordLabelsModel" "held" "[I" : Cond) ∈ wsX4_about := by decide +kernel
theorem lk_X4_about_2 : (.fieldLink RX4 54 "RecordLabelsModel" "setKind" "[I" : Cond) ∈ wsX4_about := by decide +kernel
def fX4_about (st : ow_St) (x1 x2 : Int32) : Int32 := (if (fX4_isSet st x1) = 0 then (-1) else (if (fX4_isIn st x2 0 1) = 0 then (-1) else (if x2 = 0 then (fX4_size st (st.1 55 x1.toNatClampNeg)) else (st.1 54 x1.toNatClampNeg))))
set_option maxHeartbeats 4000000 in
set_option maxRecDepth 100000 in
theorem kX4_about (l : Launch) (D : va_G) (ca : Nat → ClassId) (ad : ow_Ad) (A : Nat → Prop) (st : ow_St) (x1 : Int32) (x2 : Int32) : Met l yX4_about wsX4_about ({ frames := 2, cells := 0, slots := 0, locals := 42 }) (va_Pc [.ref (ad 10 0), .int x1, .int x2] (ow_W D ca ad A st)) (va_Qi (fun r st' => r = (fX4_about st x1 x2) ∧ st' = st) (ow_B D ca ad) A) 0 0 A := by
  refine Met.ofW (cc := cX4_about) (maxL := 3) (ret := (some .int)) (by decide) rfl ?_
  intro p e s m args below meth c s₁ B hml hv
  obtain ⟨rfl, hP, hC⟩ := hv
  have hx := B.exec
  have hb := B.bytes
  have hr := B.returns
  have hts := atoms_spec (ws := wsX4_about) B.pre
  have hown : s.vm.findClass RX4 = some m.cls := findClass_of_methodNamed B.named
  have hlocks := B.notSynchronized
  have hS : va_S A s.heap s.heap [] := va_S.rf
  have hl := lv_entry ([.ref (ad 10 0), .int x1, .int x2]) (n := 3) (Nat.le_of_ble_eq_true rfl)
  rw [lg_entry_eq]
  generalize (lg_sl ([.ref (ad 10 0), .int x1, .int x2]) ++ List.replicate (3 - (lg_sl ([.ref (ad 10 0), .int x1, .int x2])).length) Slot.unset).toArray = ls at hl ⊢
  have hl : lv_has ls 3 [(0, .ref (ad 10 0)), (1, .int x1), (2, .int x2)] := hl
  refine lv_iload_n hx hb dX4_about_0 rfl (lv_at hl 1 rfl) ?_
  refine og_ciP (og_runS (As := [.int x1]) (rest := []) ⟨hx, hb, hml, hown, hts⟩ (kX4_isSet l D ca ad A st x1) (va_cwS 1 hts gX4_about_X4_isSet rfl rfl rfl (by decide +kernel) ⟨Nat.le_of_ble_eq_true rfl, Nat.le_of_ble_eq_true rfl⟩) hC hP hS rfl hl.1 rfl (Nat.le_of_ble_eq_true rfl) dX4_about_1 ⟨Nat.zero_le _, Nat.zero_le _⟩) hS (fun H locs hP hS => ?_)
  refine lv_if_eq (tgt := 16) hx hb dX4_about_4 (by decide) (fun c_1 => ?_) (fun c_1 => ?_)
  · refine lv_iconst (v := (-1)) hx hb dX4_about_16 (by decide) ?_
    exact W.iret (v := (-1)) hx hb hr (fun t ht hW => ⟨⟨(-1), st, rfl, ⟨(by simp only [fX4_about, if_pos c_1]), rfl⟩, ow_Bi ht hP⟩, hS.F ht⟩) hS.2.2 dX4_about_17
  · refine lv_iload_n hx hb dX4_about_7 rfl (lv_at hl 2 rfl) ?_
    refine lv_iconst (v := 0) hx hb dX4_about_8 (by decide) ?_
    refine lv_iconst (v := 1) hx hb dX4_about_9 (by decide) ?_
    refine og_ciP (og_runS (As := [.int x2, .int 0, .int 1]) (rest := []) ⟨hx, hb, hml, hown, hts⟩ (kX4_isIn l D ca ad A st x2 0 1) (va_cwS 3 hts gX4_about_X4_isIn rfl rfl rfl (by decide +kernel) ⟨Nat.le_of_ble_eq_true rfl, Nat.le_of_ble_eq_true rfl⟩) hC hP hS rfl hl.1 rfl (Nat.le_of_ble_eq_true rfl) dX4_about_10 ⟨Nat.zero_le _, Nat.zero_le _⟩) hS (fun H locs hP hS => ?_)
    refine lv_if_ne (tgt := 18) hx hb dX4_about_13 (by decide) (fun c_2 => ?_) (fun c_2 => ?_)
    · refine lv_iload_n hx hb dX4_about_18 rfl (lv_at hl 2 rfl) ?_
      refine lv_if_ne (tgt := 34) hx hb dX4_about_19 (by decide) (fun c_3 => ?_) (fun c_3 => ?_)
      · refine lv_aload_n hx hb dX4_about_34 rfl (lv_at hl 0 rfl) ?_
        refine og_get (C := RX4) (T := TX4) (N := 19) (g := 10) (i := 0) (v := .ref (ad 11 6)) hx hb hts li_X4_about_X4 hown hC hP (ow_q10_0) rfl rfl 9 (by decide) (hts _ lk_X4_about_2) rfl rfl dX4_about_35 ?_
        refine lv_iload_n hx hb dX4_about_38 rfl (lv_at hl 1 rfl) ?_
        refine og_iald (g := 11) (i := 6) (j := x1.toNatClampNeg) (v := (st.1 54 x1.toNatClampNeg)) hx hb hC hP (ow_q11_6) rfl (isS_in c_1) rfl rfl dX4_about_39 ?_
        exact W.iret (v := (st.1 54 x1.toNatClampNeg)) hx hb hr (fun t ht hW => ⟨⟨(st.1 54 x1.toNatClampNeg), st, rfl, ⟨(by simp only [fX4_about, if_neg c_1, if_neg c_2, if_neg c_3]), rfl⟩, ow_Bi ht hP⟩, hS.F ht⟩) hS.2.2 dX4_about_40
      · refine lv_aload_n hx hb dX4_about_22 rfl (lv_at hl 0 rfl) ?_
        refine og_get (C := RX4) (T := TX4) (N := 19) (g := 10) (i := 0) (v := .ref (ad 11 7)) hx hb hts li_X4_about_X4 hown hC hP (ow_q10_0) rfl rfl 10 (by decide) (hts _ lk_X4_about_1) rfl rfl dX4_about_23 ?_
        refine lv_iload_n hx hb dX4_about_26 rfl (lv_at hl 1 rfl) ?_
        refine og_iald (g := 11) (i := 7) (j := x1.toNatClampNeg) (v := (st.1 55 x1.toNatClampNeg)) hx hb hC hP (ow_q11_7) rfl (isS_in c_1) rfl rfl dX4_about_27 ?_
        refine og_ciP (og_runS (As := [.int (st.1 55 x1.toNatClampNeg)]) (rest := []) ⟨hx, hb, hml, hown, hts⟩ (kX4_size l D ca ad A st (st.1 55 x1.toNatClampNeg)) (va_cwS 1 hts gX4_about_X4_size rfl rfl rfl (by decide +kernel) ⟨Nat.le_of_ble_eq_true rfl, Nat.le_of_ble_eq_true rfl⟩) hC hP hS rfl hl.1 rfl (Nat.le_of_ble_eq_true rfl) dX4_about_28 ⟨Nat.zero_le _, Nat.zero_le _⟩) hS (fun H locs hP hS => ?_)
        refine lv_goto (tgt := 40) hx hb dX4_about_31 (by decide) ?_
        exact W.iret (v := (fX4_size st (st.1 55 x1.toNatClampNeg))) hx hb hr (fun t ht hW => ⟨⟨(fX4_size st (st.1 55 x1.toNatClampNeg)), st, rfl, ⟨(by simp only [fX4_about, if_neg c_1, if_neg c_2, if_pos c_3]), rfl⟩, ow_Bi ht hP⟩, hS.F ht⟩) hS.2.2 dX4_about_40
    · refine lv_iconst (v := (-1)) hx hb dX4_about_16 (by decide) ?_
      exact W.iret (v := (-1)) hx hb hr (fun t ht hW => ⟨⟨(-1), st, rfl, ⟨(by simp only [fX4_about, if_neg c_1, if_pos c_2]), rfl⟩, ow_Bi ht hP⟩, hS.F ht⟩) hS.2.2 dX4_about_17

theorem li_X4_found_X4 : ∀ w ∈ u_ws RX4 TX4 19, w ∈ wsX4_found := by decide +kernel
theorem lk_X4_found_1 : (.fieldLink RX4 168 "RecordLabelsModel" "finds" "I" : Cond) ∈ wsX4_found := by decide +kernel
theorem lk_X4_found_2 : (.fieldLink RX4 73 "RecordLabelsModel" "foundAt" "[I" : Cond) ∈ wsX4_found := by decide +kernel
def fX4_found (st : ow_St) (x1 : Int32) : Int32 := (if (fX4_isIn st x1 0 ((st.1 61 3) - 1)) = 0 then (-4) else (st.1 59 x1.toNatClampNeg))
set_option maxHeartbeats 4000000 in
set_option maxRecDepth 100000 in
theorem kX4_found (l : Launch) (D : va_G) (ca : Nat → ClassId) (ad : ow_Ad) (A : Nat → Prop) (st : ow_St) (x1 : Int32) (hf : iv_mf st) : Met l yX4_found wsX4_found ({ frames := 1, cells := 0, slots := 0, locals := 22 }) (va_Pc [.ref (ad 10 0), .int x1] (ow_W D ca ad A st)) (va_Qi (fun r st' => r = (fX4_found st x1) ∧ st' = st) (ow_B D ca ad) A) 0 0 A := by
  refine Met.ofW (cc := cX4_found) (maxL := 2) (ret := (some .int)) (by decide) rfl ?_
  intro p e s m args below meth c s₁ B hml hv
  obtain ⟨rfl, hP, hC⟩ := hv
  have hx := B.exec
  have hb := B.bytes
  have hr := B.returns
  have hts := atoms_spec (ws := wsX4_found) B.pre
  have hown : s.vm.findClass RX4 = some m.cls := findClass_of_methodNamed B.named
  have hlocks := B.notSynchronized
  have hS : va_S A s.heap s.heap [] := va_S.rf
  have hl := lv_entry ([.ref (ad 10 0), .int x1]) (n := 2) (Nat.le_of_ble_eq_true rfl)
  rw [lg_entry_eq]
  generalize (lg_sl ([.ref (ad 10 0), .int x1]) ++ List.replicate (2 - (lg_sl ([.ref (ad 10 0), .int x1])).length) Slot.unset).toArray = ls at hl ⊢
  have hl : lv_has ls 2 [(0, .ref (ad 10 0)), (1, .int x1)] := hl
  refine lv_iload_n hx hb dX4_found_0 rfl (lv_at hl 1 rfl) ?_
  refine lv_iconst (v := 0) hx hb dX4_found_1 (by decide) ?_
  refine lv_aload_n hx hb dX4_found_2 rfl (lv_at hl 0 rfl) ?_
  refine og_get (C := RX4) (T := TX4) (N := 19) (g := 10) (i := 0) (v := .int (st.1 61 3)) hx hb hts li_X4_found_X4 hown hC hP (ow_q10_0) rfl rfl 15 (by decide) (hts _ lk_X4_found_1) rfl rfl dX4_found_3 ?_
  refine lv_iconst (v := 1) hx hb dX4_found_6 (by decide) ?_
  refine lv_isub hx hb dX4_found_7 ?_
  refine og_ciP (og_runS (As := [.int x1, .int 0, .int ((st.1 61 3) - 1)]) (rest := []) ⟨hx, hb, hml, hown, hts⟩ (kX4_isIn l D ca ad A st x1 0 ((st.1 61 3) - 1)) (va_cwS 3 hts gX4_found_X4_isIn rfl rfl rfl (by decide +kernel) ⟨Nat.le_of_ble_eq_true rfl, Nat.le_of_ble_eq_true rfl⟩) hC hP hS rfl hl.1 rfl (Nat.le_of_ble_eq_true rfl) dX4_found_8 ⟨Nat.zero_le _, Nat.zero_le _⟩) hS (fun H locs hP hS => ?_)
  refine lv_if_eq (tgt := 23) hx hb dX4_found_11 (by decide) (fun c_1 => ?_) (fun c_1 => ?_)
  · refine lv_bipush (v := (-4)) hx hb dX4_found_23 (by decide) ?_
    exact W.iret (v := (-4)) hx hb hr (fun t ht hW => ⟨⟨(-4), st, rfl, ⟨(by simp only [fX4_found, if_pos c_1]), rfl⟩, ow_Bi ht hP⟩, hS.F ht⟩) hS.2.2 dX4_found_25
  · refine lv_aload_n hx hb dX4_found_14 rfl (lv_at hl 0 rfl) ?_
    refine og_get (C := RX4) (T := TX4) (N := 19) (g := 10) (i := 0) (v := .ref (ad 11 11)) hx hb hts li_X4_found_X4 hown hC hP (ow_q10_0) rfl rfl 16 (by decide) (hts _ lk_X4_found_2) rfl rfl dX4_found_15 ?_
    refine lv_iload_n hx hb dX4_found_18 rfl (lv_at hl 1 rfl) ?_
    refine og_iald (g := 11) (i := 11) (j := x1.toNatClampNeg) (v := (st.1 59 x1.toNatClampNeg)) hx hb hC hP (ow_q11_11) rfl (mf_in hf c_1) rfl rfl dX4_found_19 ?_
    refine lv_goto (tgt := 25) hx hb dX4_found_20 (by decide) ?_
    exact W.iret (v := (st.1 59 x1.toNatClampNeg)) hx hb hr (fun t ht hW => ⟨⟨(st.1 59 x1.toNatClampNeg), st, rfl, ⟨(by simp only [fX4_found, if_neg c_1]), rfl⟩, ow_Bi ht hP⟩, hS.F ht⟩) hS.2.2 dX4_found_25

theorem li_X4_count_X4 : ∀ w ∈ u_ws RX4 TX4 19, w ∈ wsX4_count := by decide +kernel
theorem lk_X4_count_1 : (.fieldLink RX4 60 "RecordLabelsModel" "records" "[I" : Cond) ∈ wsX4_count := by decide +kernel
theorem lk_X4_count_2 : (.fieldLink RX4 117 "RecordLabelsModel" "failures" "I" : Cond) ∈ wsX4_count := by decide +kernel
theorem lk_X4_count_3 : (.fieldLink RX4 144 "RecordLabelsModel" "wrongs" "I" : Cond) ∈ wsX4_count := by decide +kernel
def fX4_count (st : ow_St) (x1 : Int32) : Int32 := (if x1 = 0 then (st.1 56 x1.toNatClampNeg) else (if x1 = 1 then (st.1 56 x1.toNatClampNeg) else (if x1 = 2 then (st.1 61 0) else (if x1 = 3 then (st.1 61 1) else (-1)))))
set_option maxHeartbeats 4000000 in
set_option maxRecDepth 100000 in
theorem kX4_count (l : Launch) (D : va_G) (ca : Nat → ClassId) (ad : ow_Ad) (A : Nat → Prop) (st : ow_St) (x1 : Int32) : Met l yX4_count wsX4_count ({ frames := 0, cells := 0, slots := 0, locals := 0 }) (va_Pc [.ref (ad 10 0), .int x1] (ow_W D ca ad A st)) (va_Qi (fun r st' => r = (fX4_count st x1) ∧ st' = st) (ow_B D ca ad) A) 0 0 A := by
  refine Met.ofW (cc := cX4_count) (maxL := 2) (ret := (some .int)) (by decide) rfl ?_
  intro p e s m args below meth c s₁ B hml hv
  obtain ⟨rfl, hP, hC⟩ := hv
  have hx := B.exec
  have hb := B.bytes
  have hr := B.returns
  have hts := atoms_spec (ws := wsX4_count) B.pre
  have hown : s.vm.findClass RX4 = some m.cls := findClass_of_methodNamed B.named
  have hlocks := B.notSynchronized
  have hS : va_S A s.heap s.heap [] := va_S.rf
  have hl := lv_entry ([.ref (ad 10 0), .int x1]) (n := 2) (Nat.le_of_ble_eq_true rfl)
  rw [lg_entry_eq]
  generalize (lg_sl ([.ref (ad 10 0), .int x1]) ++ List.replicate (2 - (lg_sl ([.ref (ad 10 0), .int x1])).length) Slot.unset).toArray = ls at hl ⊢
  have hl : lv_has ls 2 [(0, .ref (ad 10 0)), (1, .int x1)] := hl
  refine lv_iload_n hx hb dX4_count_0 rfl (lv_at hl 1 rfl) ?_
  refine lv_if_eq (tgt := 9) hx hb dX4_count_1 (by decide) (fun c_1 => ?_) (fun c_1 => ?_)
  · refine lv_aload_n hx hb dX4_count_9 rfl (lv_at hl 0 rfl) ?_
    refine og_get (C := RX4) (T := TX4) (N := 19) (g := 10) (i := 0) (v := .ref (ad 11 8)) hx hb hts li_X4_count_X4 hown hC hP (ow_q10_0) rfl rfl 11 (by decide) (hts _ lk_X4_count_1) rfl rfl dX4_count_10 ?_
    refine lv_iload_n hx hb dX4_count_13 rfl (lv_at hl 1 rfl) ?_
    refine og_iald (g := 11) (i := 8) (j := x1.toNatClampNeg) (v := (st.1 56 x1.toNatClampNeg)) hx hb hC hP (ow_q11_8) rfl (by rw [c_1]; unfold vp_in; decide) rfl rfl dX4_count_14 ?_
    refine lv_goto (tgt := 43) hx hb dX4_count_15 (by decide) ?_
    exact W.iret (v := (st.1 56 x1.toNatClampNeg)) hx hb hr (fun t ht hW => ⟨⟨(st.1 56 x1.toNatClampNeg), st, rfl, ⟨(by simp only [fX4_count, if_pos c_1]), rfl⟩, ow_Bi ht hP⟩, hS.F ht⟩) hS.2.2 dX4_count_43
  · refine lv_iload_n hx hb dX4_count_4 rfl (lv_at hl 1 rfl) ?_
    refine lv_iconst (v := 1) hx hb dX4_count_5 (by decide) ?_
    refine lv_icmp_ne (tgt := 18) hx hb dX4_count_6 (by decide) (fun c_2 => ?_) (fun c_2 => ?_)
    · refine lv_iload_n hx hb dX4_count_18 rfl (lv_at hl 1 rfl) ?_
      refine lv_iconst (v := 2) hx hb dX4_count_19 (by decide) ?_
      refine lv_icmp_ne (tgt := 30) hx hb dX4_count_20 (by decide) (fun c_3 => ?_) (fun c_3 => ?_)
      · refine lv_iload_n hx hb dX4_count_30 rfl (lv_at hl 1 rfl) ?_
        refine lv_iconst (v := 3) hx hb dX4_count_31 (by decide) ?_
        refine lv_icmp_ne (tgt := 42) hx hb dX4_count_32 (by decide) (fun c_4 => ?_) (fun c_4 => ?_)
        · refine lv_iconst (v := (-1)) hx hb dX4_count_42 (by decide) ?_
          exact W.iret (v := (-1)) hx hb hr (fun t ht hW => ⟨⟨(-1), st, rfl, ⟨(by simp only [fX4_count, if_neg c_1, if_neg c_2, if_neg c_3, if_neg c_4]), rfl⟩, ow_Bi ht hP⟩, hS.F ht⟩) hS.2.2 dX4_count_43
        · refine lv_aload_n hx hb dX4_count_35 rfl (lv_at hl 0 rfl) ?_
          refine og_get (C := RX4) (T := TX4) (N := 19) (g := 10) (i := 0) (v := .int (st.1 61 1)) hx hb hts li_X4_count_X4 hown hC hP (ow_q10_0) rfl rfl 8 (by decide) (hts _ lk_X4_count_3) rfl rfl dX4_count_36 ?_
          refine lv_goto (tgt := 43) hx hb dX4_count_39 (by decide) ?_
          exact W.iret (v := (st.1 61 1)) hx hb hr (fun t ht hW => ⟨⟨(st.1 61 1), st, rfl, ⟨(by simp only [fX4_count, if_neg c_1, if_neg c_2, if_neg c_3, if_pos c_4]), rfl⟩, ow_Bi ht hP⟩, hS.F ht⟩) hS.2.2 dX4_count_43
      · refine lv_aload_n hx hb dX4_count_23 rfl (lv_at hl 0 rfl) ?_
        refine og_get (C := RX4) (T := TX4) (N := 19) (g := 10) (i := 0) (v := .int (st.1 61 0)) hx hb hts li_X4_count_X4 hown hC hP (ow_q10_0) rfl rfl 7 (by decide) (hts _ lk_X4_count_2) rfl rfl dX4_count_24 ?_
        refine lv_goto (tgt := 43) hx hb dX4_count_27 (by decide) ?_
        exact W.iret (v := (st.1 61 0)) hx hb hr (fun t ht hW => ⟨⟨(st.1 61 0), st, rfl, ⟨(by simp only [fX4_count, if_neg c_1, if_neg c_2, if_pos c_3]), rfl⟩, ow_Bi ht hP⟩, hS.F ht⟩) hS.2.2 dX4_count_43
    · refine lv_aload_n hx hb dX4_count_9 rfl (lv_at hl 0 rfl) ?_
      refine og_get (C := RX4) (T := TX4) (N := 19) (g := 10) (i := 0) (v := .ref (ad 11 8)) hx hb hts li_X4_count_X4 hown hC hP (ow_q10_0) rfl rfl 11 (by decide) (hts _ lk_X4_count_1) rfl rfl dX4_count_10 ?_
      refine lv_iload_n hx hb dX4_count_13 rfl (lv_at hl 1 rfl) ?_
      refine og_iald (g := 11) (i := 8) (j := x1.toNatClampNeg) (v := (st.1 56 x1.toNatClampNeg)) hx hb hC hP (ow_q11_8) rfl (by rw [c_2]; unfold vp_in; decide) rfl rfl dX4_count_14 ?_
      refine lv_goto (tgt := 43) hx hb dX4_count_15 (by decide) ?_
      exact W.iret (v := (st.1 56 x1.toNatClampNeg)) hx hb hr (fun t ht hW => ⟨⟨(st.1 56 x1.toNatClampNeg), st, rfl, ⟨(by simp only [fX4_count, if_neg c_1, if_pos c_2]), rfl⟩, ow_Bi ht hP⟩, hS.F ht⟩) hS.2.2 dX4_count_43
