def cellok (v : Int32) (n : Nat) : Prop := v = (-1) ∨ vp_in v n
theorem ck {v : Int32} {n : Nat} (h : cellok v n) (h2 : ¬ v = (-1)) : vp_in v n := h.resolve_left h2
def iv_mcl (st : ow_St) : Prop := ∀ r, r < 30 → cellok (st.1 57 (4 * r)) 5 ∧ cellok (st.1 57 (4 * r + 2)) 26 ∧ cellok (st.1 57 (120 + 4 * r)) 7
theorem ixA (r d : Nat) : (0 + (4 * nI r)) + nI d = nI (4 * r + d) := by rw [mul4, show (0 : Int32) = nI 0 from rfl, nI_add, nI_add, Nat.zero_add]
theorem ixB (r d : Nat) : (120 + (4 * nI r)) + nI d = nI (120 + 4 * r + d) := by rw [mul4, show (120 : Int32) = nI 120 from rfl, nI_add, nI_add]
theorem cl_00 {st : ow_St} {x y : Int32} (h : iv_mcl st) (hx : ∃ n, n < 30 ∧ x = nI n) (e : y = 0) : ¬ st.1 57 (((0 + (4 * x)) + y).toNatClampNeg) = (-1) → vp_in (st.1 57 (((0 + (4 * x)) + y).toNatClampNeg)) 5 := by
  obtain ⟨n, hn, rfl⟩ := hx
  subst e
  rw [show (0 : Int32) + 4 * nI n + 0 = nI (4 * n + 0) from ixA n 0, nI_clamp (by omega)]
  exact ck (h n hn).1
theorem cl_02 {st : ow_St} {x y : Int32} (h : iv_mcl st) (hx : ∃ n, n < 30 ∧ x = nI n) (e : y = 2) : ¬ st.1 57 (((0 + (4 * x)) + y).toNatClampNeg) = (-1) → vp_in (st.1 57 (((0 + (4 * x)) + y).toNatClampNeg)) 26 := by
  obtain ⟨n, hn, rfl⟩ := hx
  subst e
  rw [show (0 : Int32) + 4 * nI n + 2 = nI (4 * n + 2) from ixA n 2, nI_clamp (by omega)]
  exact ck (h n hn).2.1
theorem cl_10 {st : ow_St} {x y : Int32} (h : iv_mcl st) (hx : ∃ n, n < 30 ∧ x = nI n) (e : y = 0) : ¬ st.1 57 (((120 + (4 * x)) + y).toNatClampNeg) = (-1) → vp_in (st.1 57 (((120 + (4 * x)) + y).toNatClampNeg)) 7 := by
  obtain ⟨n, hn, rfl⟩ := hx
  subst e
  rw [show (120 : Int32) + 4 * nI n + 0 = nI (120 + 4 * n + 0) from ixB n 0, nI_clamp (by omega)]
  exact ck (h n hn).2.2
theorem mz_nI {st : ow_St} {t : Nat} (h : iv_mz st t) : st.1 56 t = nI (st.1 56 t).toNatClampNeg ∧ (st.1 56 t).toNatClampNeg ≤ 30 := by
  obtain ⟨n, hn, e⟩ := h
  rw [e, nI_clamp (by omega)]
  exact ⟨rfl, hn⟩
theorem itz {st : ow_St} {x b : Int32} {n : Nat} (hb : b = nI n) (hn : n ≤ 3) (h : ¬ fX4_isIn st x 1 b = 0) : (∃ d, d ≤ 3 ∧ x = nI d) ∧ ¬ x = 0 := by
  obtain ⟨a1, a2⟩ := isIn_t h
  subst hb
  have a0 : ¬ x < 0 := fun q => absurd (Int32.lt_of_le_of_lt a1 q) (by decide)
  obtain ⟨j, hj, rfl⟩ := nI_of a0
  have b1 := (nI_leI (a := 1) (by decide) hj).mp a1
  have b2 := (nI_leI hj (by omega)).mp a2
  exact ⟨⟨j, by omega, rfl⟩, fun q => nI_ne0 (by omega) hj q⟩
theorem ite_P {α : Type} {P : α → Prop} {c : Prop} [Decidable c] {a b : α} (ha : c → P a) (hb : ¬ c → P b) : P (if c then a else b) := by
  by_cases h : c
  · rw [if_pos h]
    exact ha h
  · rw [if_neg h]
    exact hb h
theorem bg_fr {st : ow_St} {x : Int32} {i : Nat} : (fX4_begin st x).2.1 56 i = st.1 56 i := by
  unfold fX4_begin
  dsimp only
  repeat' split
  all_goals first | rfl | exact ow_si_n2 (fun q => absurd q.1 (by decide))
theorem wk_fr {st : ow_St} {x y : Int32} {v : Int64} {i : Nat} : (fX4_works st x y v).2.1 56 i = st.1 56 i := by
  unfold fX4_works fX4_lost
  dsimp only
  repeat' (refine ite_P (P := fun z : Int32 × ow_St => z.2.1 56 i = st.1 56 i) (fun _ => ?_) (fun _ => ?_))
  all_goals first | rfl | exact ow_si_n2 (fun q => absurd q.1 (by decide))

theorem li_X4_record_0_X4 : ∀ w ∈ u_ws RX4 TX4 19, w ∈ wsX4_record := by decide +kernel
theorem lk_X4_record_0_1 : (.fieldLink RX4 60 "RecordLabelsModel" "records" "[I" : Cond) ∈ wsX4_record := by decide +kernel
theorem lk_X4_record_0_2 : (.fieldLink RX4 76 "RecordLabelsModel" "draft" "[I" : Cond) ∈ wsX4_record := by decide +kernel
theorem lk_X4_record_0_3 : (.fieldLink RX4 63 "RecordLabelsModel" "cells" "[I" : Cond) ∈ wsX4_record := by decide +kernel
theorem lk_X4_record_0_4 : (.fieldLink RX4 144 "RecordLabelsModel" "wrongs" "I" : Cond) ∈ wsX4_record := by decide +kernel
def fX4_record_0 (st : ow_St) (x2 x3 x4 x5 : Int32) : Int32 × ow_St := (if (st.1 56 0) = 30 then ((-2), st) else (let st2 := (ow_si st 60 0 (fX4_constant st 0 x2)); (let st3 := (ow_si st2 60 1 x3); (let st4 := (ow_si st3 60 2 (fX4_constant st3 2 x4)); (let st5 := (ow_si st4 60 3 0); (if (fX4_wrong_0_12 st5) = (-4) then (let st7 := (ow_si st5 57 (((0 + (4 * (st5.1 56 0))) + 0).toNatClampNeg) (st5.1 60 0)); (let st8 := (ow_si st7 57 (((0 + (4 * (st5.1 56 0))) + 1).toNatClampNeg) (st7.1 60 1)); (let st9 := (ow_si st8 57 (((0 + (4 * (st5.1 56 0))) + 2).toNatClampNeg) (st8.1 60 2)); (let st10 := (ow_si st9 57 (((0 + (4 * (st5.1 56 0))) + 3).toNatClampNeg) (st9.1 60 3)); (let st11 := (fX4_take_12 st10 0); (let st12 := (ow_si st11 56 0 ((st11.1 56 0) + 1)); (((st12.1 56 0) - 1), st12))))))) else (let st13 := (ow_si st5 61 1 ((st5.1 61 1) + 1)); (((-10) - (fX4_wrong_0_12 st5)), st13))))))))
set_option maxHeartbeats 4000000 in
set_option maxRecDepth 100000 in
theorem kX4_record_0 (l : Launch) (D : va_G) (ca : Nat → ClassId) (ad : ow_Ad) (A : Nat → Prop) (st : ow_St) (x2 : Int32) (x3 : Int32) (x4 : Int32) (x5 : Int32) (hmz0 : iv_mz st 0) : Met l yX4_record wsX4_record ({ frames := 3, cells := 0, slots := 0, locals := 66 }) (va_Pc [.ref (ad 10 0), .int 0, .int x2, .int x3, .int x4, .int x5] (ow_W D ca ad A st)) (va_Qi (fun r st' => (r, st') = (fX4_record_0 st x2 x3 x4 x5)) (ow_B D ca ad) A) 0 0 A := by
  refine Met.ofW (cc := cX4_record) (maxL := 9) (ret := (some .int)) (by decide) rfl ?_
  intro p e s m args below meth c s₁ B hml hv
  obtain ⟨rfl, hP, hC⟩ := hv
  have hx := B.exec
  have hb := B.bytes
  have hr := B.returns
  have hts := atoms_spec (ws := wsX4_record) B.pre
  have hown : s.vm.findClass RX4 = some m.cls := findClass_of_methodNamed B.named
  have hlocks := B.notSynchronized
  have hS : va_S A s.heap s.heap [] := va_S.rf
  have hl := lv_entry ([.ref (ad 10 0), .int 0, .int x2, .int x3, .int x4, .int x5]) (n := 9) (Nat.le_of_ble_eq_true rfl)
  rw [lg_entry_eq]
  generalize (lg_sl ([.ref (ad 10 0), .int 0, .int x2, .int x3, .int x4, .int x5]) ++ List.replicate (9 - (lg_sl ([.ref (ad 10 0), .int 0, .int x2, .int x3, .int x4, .int x5])).length) Slot.unset).toArray = ls at hl ⊢
  have hl : lv_has ls 9 [(0, .ref (ad 10 0)), (1, .int 0), (2, .int x2), (3, .int x3), (4, .int x4), (5, .int x5)] := hl
  refine lv_iload_n hx hb dX4_record_0 rfl (lv_at hl 1 rfl) ?_
  refine og_ciP (og_runS (As := [.int 0]) (rest := []) ⟨hx, hb, hml, hown, hts⟩ (kX4_isTable l D ca ad A st 0) (va_cwS 1 hts gX4_record_X4_isTable rfl rfl rfl (by decide +kernel) ⟨Nat.le_of_ble_eq_true rfl, Nat.le_of_ble_eq_true rfl⟩) hC hP hS rfl hl.1 rfl (Nat.le_of_ble_eq_true rfl) dX4_record_1 ⟨Nat.zero_le _, Nat.zero_le _⟩) hS (fun H locs hP hS => ?_)
  refine lv_if_ne (tgt := 9) hx hb dX4_record_4 (by decide) (fun _ => ?_) (fun c => absurd c isT_0)
  refine lv_aload_n hx hb dX4_record_9 rfl (lv_at hl 0 rfl) ?_
  refine og_get (C := RX4) (T := TX4) (N := 19) (g := 10) (i := 0) (v := .ref (ad 11 8)) hx hb hts li_X4_record_0_X4 hown hC hP (ow_q10_0) rfl rfl 11 (by decide) (hts _ lk_X4_record_0_1) rfl rfl dX4_record_10 ?_
  refine lv_iload_n hx hb dX4_record_13 rfl (lv_at hl 1 rfl) ?_
  refine og_iald (g := 11) (i := 8) (j := 0) (v := (st.1 56 0)) hx hb hC hP (ow_q11_8) rfl (by unfold vp_in; decide) rfl rfl dX4_record_14 ?_
  refine lv_bipush (v := 30) hx hb dX4_record_15 (by decide) ?_
  refine lv_icmp_ne (tgt := 23) hx hb dX4_record_17 (by decide) (fun c_1 => ?_) (fun c_1 => ?_)
  · refine lv_aload_n hx hb dX4_record_23 rfl (lv_at hl 0 rfl) ?_
    refine og_get (C := RX4) (T := TX4) (N := 19) (g := 10) (i := 0) (v := .ref (ad 11 12)) hx hb hts li_X4_record_0_X4 hown hC hP (ow_q10_0) rfl rfl 18 (by decide) (hts _ lk_X4_record_0_2) rfl rfl dX4_record_24 ?_
    refine lv_iconst (v := 0) hx hb dX4_record_27 (by decide) ?_
    refine lv_aload_n hx hb dX4_record_28 rfl (lv_at hl 0 rfl) ?_
    refine lv_iload_n hx hb dX4_record_29 rfl (lv_at hl 1 rfl) ?_
    refine lv_iload_n hx hb dX4_record_30 rfl (lv_at hl 2 rfl) ?_
    refine og_ciP (og_runV (C := RX4) (T := TX4) (N := 19) (g := 10) (i := 0) (As := [.int 0, .int x2]) (rest := [.int 0, .ref (ad 11 12)]) ⟨hx, hb, hml, hown, hts⟩ (kX4_constant l D ca ad A st 0 x2 (by unfold vp_in; decide)) (cwV 2 hts gX4_record_X4_constant rfl rfl rfl (by decide +kernel) ⟨Nat.le_of_ble_eq_true rfl, Nat.le_of_ble_eq_true rfl⟩) hC hP hS (ow_q10_0) rfl rfl rfl hl.1 rfl (Nat.le_of_ble_eq_true rfl) dX4_record_31 ⟨Nat.zero_le _, Nat.zero_le _⟩) hS (fun H locs hP hS => ?_)
    refine og_iast (g := 11) (i := 12) (j := 0) (v := (fX4_constant st 0 x2)) hx hb hC hP hS (ow_q11_12) rfl (by unfold vp_in; decide) rfl (we_11_12 st 0 (fX4_constant st 0 x2)) dX4_record_34 (fun H locs hP hS => ?_)
    obtain ⟨st2, e2⟩ : ∃ z, z = (ow_si st 60 0 (fX4_constant st 0 x2)) := ⟨_, rfl⟩
    rw [← e2] at hP
    refine lv_aload_n hx hb dX4_record_35 rfl (lv_at hl 0 rfl) ?_
    refine og_get (C := RX4) (T := TX4) (N := 19) (g := 10) (i := 0) (v := .ref (ad 11 12)) hx hb hts li_X4_record_0_X4 hown hC hP (ow_q10_0) rfl rfl 18 (by decide) (hts _ lk_X4_record_0_2) rfl rfl dX4_record_36 ?_
    refine lv_iconst (v := 1) hx hb dX4_record_39 (by decide) ?_
    refine lv_iload_n hx hb dX4_record_40 rfl (lv_at hl 3 rfl) ?_
    refine og_iast (g := 11) (i := 12) (j := 1) (v := x3) hx hb hC hP hS (ow_q11_12) rfl (by unfold vp_in; decide) rfl (we_11_12 st2 1 x3) dX4_record_41 (fun H locs hP hS => ?_)
    obtain ⟨st3, e3⟩ : ∃ z, z = (ow_si st2 60 1 x3) := ⟨_, rfl⟩
    rw [← e3] at hP
    refine lv_aload_n hx hb dX4_record_42 rfl (lv_at hl 0 rfl) ?_
    refine og_get (C := RX4) (T := TX4) (N := 19) (g := 10) (i := 0) (v := .ref (ad 11 12)) hx hb hts li_X4_record_0_X4 hown hC hP (ow_q10_0) rfl rfl 18 (by decide) (hts _ lk_X4_record_0_2) rfl rfl dX4_record_43 ?_
    refine lv_iconst (v := 2) hx hb dX4_record_46 (by decide) ?_
    refine lv_iload_n hx hb dX4_record_47 rfl (lv_at hl 1 rfl) ?_
    refine lv_if_ne (tgt := 61) hx hb dX4_record_48 (by decide) (fun c => absurd (by decide) c) (fun _ => ?_)
    refine lv_aload_n hx hb dX4_record_51 rfl (lv_at hl 0 rfl) ?_
    refine lv_iconst (v := 2) hx hb dX4_record_52 (by decide) ?_
    refine lv_iload hx hb dX4_record_53 (lv_at hl 4 rfl) ?_
    refine og_ciP (og_runV (C := RX4) (T := TX4) (N := 19) (g := 10) (i := 0) (As := [.int 2, .int x4]) (rest := [.int 2, .ref (ad 11 12)]) ⟨hx, hb, hml, hown, hts⟩ (kX4_constant l D ca ad A st3 2 x4 (by unfold vp_in; decide)) (cwV 2 hts gX4_record_X4_constant rfl rfl rfl (by decide +kernel) ⟨Nat.le_of_ble_eq_true rfl, Nat.le_of_ble_eq_true rfl⟩) hC hP hS (ow_q10_0) rfl rfl rfl hl.1 rfl (Nat.le_of_ble_eq_true rfl) dX4_record_55 ⟨Nat.zero_le _, Nat.zero_le _⟩) hS (fun H locs hP hS => ?_)
    refine lv_goto (tgt := 63) hx hb dX4_record_58 (by decide) ?_
    refine og_iast (g := 11) (i := 12) (j := 2) (v := (fX4_constant st3 2 x4)) hx hb hC hP hS (ow_q11_12) rfl (by unfold vp_in; decide) rfl (we_11_12 st3 2 (fX4_constant st3 2 x4)) dX4_record_63 (fun H locs hP hS => ?_)
    obtain ⟨st4, e4⟩ : ∃ z, z = (ow_si st3 60 2 (fX4_constant st3 2 x4)) := ⟨_, rfl⟩
    rw [← e4] at hP
    refine lv_aload_n hx hb dX4_record_64 rfl (lv_at hl 0 rfl) ?_
    refine og_get (C := RX4) (T := TX4) (N := 19) (g := 10) (i := 0) (v := .ref (ad 11 12)) hx hb hts li_X4_record_0_X4 hown hC hP (ow_q10_0) rfl rfl 18 (by decide) (hts _ lk_X4_record_0_2) rfl rfl dX4_record_65 ?_
    refine lv_iconst (v := 3) hx hb dX4_record_68 (by decide) ?_
    refine lv_iload_n hx hb dX4_record_69 rfl (lv_at hl 1 rfl) ?_
    refine lv_if_ne (tgt := 77) hx hb dX4_record_70 (by decide) (fun c => absurd (by decide) c) (fun _ => ?_)
    refine lv_iconst (v := 0) hx hb dX4_record_73 (by decide) ?_
    refine lv_goto (tgt := 79) hx hb dX4_record_74 (by decide) ?_
    refine og_iast (g := 11) (i := 12) (j := 3) (v := 0) hx hb hC hP hS (ow_q11_12) rfl (by unfold vp_in; decide) rfl (we_11_12 st4 3 0) dX4_record_79 (fun H locs hP hS => ?_)
    obtain ⟨st5, e5⟩ : ∃ z, z = (ow_si st4 60 3 0) := ⟨_, rfl⟩
    rw [← e5] at hP
    refine lv_aload_n hx hb dX4_record_80 rfl (lv_at hl 0 rfl) ?_
    refine lv_iload_n hx hb dX4_record_81 rfl (lv_at hl 1 rfl) ?_
    refine lv_aload_n hx hb dX4_record_82 rfl (lv_at hl 0 rfl) ?_
    refine og_get (C := RX4) (T := TX4) (N := 19) (g := 10) (i := 0) (v := .ref (ad 11 12)) hx hb hts li_X4_record_0_X4 hown hC hP (ow_q10_0) rfl rfl 18 (by decide) (hts _ lk_X4_record_0_2) rfl rfl dX4_record_83 ?_
    refine lv_iconst (v := 0) hx hb dX4_record_86 (by decide) ?_
    refine og_ciP (og_runV (C := RX4) (T := TX4) (N := 19) (g := 10) (i := 0) (As := [.int 0, .ref (ad 11 12), .int 0]) (rest := []) ⟨hx, hb, hml, hown, hts⟩ (kX4_wrong_0_12 l D ca ad A st5) (cwV 3 hts gX4_record_X4_wrong rfl rfl rfl (by decide +kernel) ⟨Nat.le_of_ble_eq_true rfl, Nat.le_of_ble_eq_true rfl⟩) hC hP hS (ow_q10_0) rfl rfl rfl hl.1 rfl (Nat.le_of_ble_eq_true rfl) dX4_record_87 ⟨Nat.zero_le _, Nat.zero_le _⟩) hS (fun H locs hP hS => ?_)
    refine lv_istore (lv' := [(6, .int (fX4_wrong_0_12 st5)), (0, .ref (ad 10 0)), (1, .int 0), (2, .int x2), (3, .int x3), (4, .int x4), (5, .int x5)]) hx hb dX4_record_90 hl (by decide) rfl (fun ls hl => ?_)
    refine lv_iload hx hb dX4_record_92 (lv_at hl 0 rfl) ?_
    refine lv_bipush (v := (-4)) hx hb dX4_record_94 (by decide) ?_
    refine lv_icmp_eq (tgt := 115) hx hb dX4_record_96 (by decide) (fun c_6 => ?_) (fun c_6 => ?_)
    · refine lv_bipush (v := 120) hx hb dX4_record_115 (by decide) ?_
      refine lv_iload_n hx hb dX4_record_117 rfl (lv_at hl 2 rfl) ?_
      refine lv_imul hx hb dX4_record_118 ?_
      rw [show (120 : Int32) * 0 = (0 : Int32) from rfl]
      refine lv_iconst (v := 4) hx hb dX4_record_119 (by decide) ?_
      refine lv_aload_n hx hb dX4_record_120 rfl (lv_at hl 1 rfl) ?_
      refine og_get (C := RX4) (T := TX4) (N := 19) (g := 10) (i := 0) (v := .ref (ad 11 8)) hx hb hts li_X4_record_0_X4 hown hC hP (ow_q10_0) rfl rfl 11 (by decide) (hts _ lk_X4_record_0_1) rfl rfl dX4_record_121 ?_
      refine lv_iload_n hx hb dX4_record_124 rfl (lv_at hl 2 rfl) ?_
      refine og_iald (g := 11) (i := 8) (j := 0) (v := (st5.1 56 0)) hx hb hC hP (ow_q11_8) rfl (by unfold vp_in; decide) rfl rfl dX4_record_125 ?_
      refine lv_imul hx hb dX4_record_126 ?_
      refine lv_iadd hx hb dX4_record_127 ?_
      refine lv_istore (lv' := [(7, .int (0 + (4 * (st5.1 56 0)))), (6, .int (fX4_wrong_0_12 st5)), (0, .ref (ad 10 0)), (1, .int 0), (2, .int x2), (3, .int x3), (4, .int x4), (5, .int x5)]) hx hb dX4_record_128 hl (by decide) rfl (fun ls hl => ?_)
      refine lv_iconst (v := 0) hx hb dX4_record_130 (by decide) ?_
      refine lv_istore (lv' := [(8, .int 0), (7, .int (0 + (4 * (st5.1 56 0)))), (6, .int (fX4_wrong_0_12 st5)), (0, .ref (ad 10 0)), (1, .int 0), (2, .int x2), (3, .int x3), (4, .int x4), (5, .int x5)]) hx hb dX4_record_131 hl (by decide) rfl (fun ls hl => ?_)
      refine lv_iload hx hb dX4_record_133 (lv_at hl 0 rfl) ?_
      refine lv_iconst (v := 4) hx hb dX4_record_135 (by decide) ?_
      refine lv_icmp_ge (tgt := 162) hx hb dX4_record_136 (by decide) (fun c => absurd c (by decide)) (fun _ => ?_)
      refine lv_aload_n hx hb dX4_record_139 rfl (lv_at hl 3 rfl) ?_
      refine og_get (C := RX4) (T := TX4) (N := 19) (g := 10) (i := 0) (v := .ref (ad 11 9)) hx hb hts li_X4_record_0_X4 hown hC hP (ow_q10_0) rfl rfl 12 (by decide) (hts _ lk_X4_record_0_3) rfl rfl dX4_record_140 ?_
      refine lv_iload hx hb dX4_record_143 (lv_at hl 1 rfl) ?_
      refine lv_iload hx hb dX4_record_145 (lv_at hl 0 rfl) ?_
      refine lv_iadd hx hb dX4_record_147 ?_
      refine lv_aload_n hx hb dX4_record_148 rfl (lv_at hl 3 rfl) ?_
      refine og_get (C := RX4) (T := TX4) (N := 19) (g := 10) (i := 0) (v := .ref (ad 11 12)) hx hb hts li_X4_record_0_X4 hown hC hP (ow_q10_0) rfl rfl 18 (by decide) (hts _ lk_X4_record_0_2) rfl rfl dX4_record_149 ?_
      refine lv_iload hx hb dX4_record_152 (lv_at hl 0 rfl) ?_
      refine og_iald (g := 11) (i := 12) (j := 0) (v := (st5.1 60 0)) hx hb hC hP (ow_q11_12) rfl (by unfold vp_in; decide) rfl rfl dX4_record_154 ?_
      refine og_iast (g := 11) (i := 9) (j := (((0 + (4 * (st5.1 56 0))) + 0).toNatClampNeg)) (v := (st5.1 60 0)) hx hb hC hP hS (ow_q11_9) rfl (by have h9 := at_0 (rc_lt hmz0 c_1); subst e5; subst e4; subst e3; subst e2; simp (disch := decide) only [ow_si_ne]; exact at_in (d := 0) h9 (by decide)) rfl (we_11_9 st5 (((0 + (4 * (st5.1 56 0))) + 0).toNatClampNeg) (st5.1 60 0)) dX4_record_155 (fun H locs hP hS => ?_)
      obtain ⟨st7, e7⟩ : ∃ z, z = (ow_si st5 57 (((0 + (4 * (st5.1 56 0))) + 0).toNatClampNeg) (st5.1 60 0)) := ⟨_, rfl⟩
      rw [← e7] at hP
      refine lv_iinc (v := 1) (lv' := [(8, .int 1), (7, .int (0 + (4 * (st5.1 56 0)))), (6, .int (fX4_wrong_0_12 st5)), (0, .ref (ad 10 0)), (1, .int 0), (2, .int x2), (3, .int x3), (4, .int x4), (5, .int x5)]) hx hb dX4_record_156 hl (k := 0) rfl (by decide) (by decide) rfl (fun ls hl => ?_)
      refine lv_goto (tgt := 133) hx hb dX4_record_159 (by decide) ?_
      refine lv_iload hx hb dX4_record_133 (lv_at hl 0 rfl) ?_
      refine lv_iconst (v := 4) hx hb dX4_record_135 (by decide) ?_
      refine lv_icmp_ge (tgt := 162) hx hb dX4_record_136 (by decide) (fun c => absurd c (by decide)) (fun _ => ?_)
      refine lv_aload_n hx hb dX4_record_139 rfl (lv_at hl 3 rfl) ?_
      refine og_get (C := RX4) (T := TX4) (N := 19) (g := 10) (i := 0) (v := .ref (ad 11 9)) hx hb hts li_X4_record_0_X4 hown hC hP (ow_q10_0) rfl rfl 12 (by decide) (hts _ lk_X4_record_0_3) rfl rfl dX4_record_140 ?_
      refine lv_iload hx hb dX4_record_143 (lv_at hl 1 rfl) ?_
      refine lv_iload hx hb dX4_record_145 (lv_at hl 0 rfl) ?_
      refine lv_iadd hx hb dX4_record_147 ?_
      refine lv_aload_n hx hb dX4_record_148 rfl (lv_at hl 3 rfl) ?_
      refine og_get (C := RX4) (T := TX4) (N := 19) (g := 10) (i := 0) (v := .ref (ad 11 12)) hx hb hts li_X4_record_0_X4 hown hC hP (ow_q10_0) rfl rfl 18 (by decide) (hts _ lk_X4_record_0_2) rfl rfl dX4_record_149 ?_
      refine lv_iload hx hb dX4_record_152 (lv_at hl 0 rfl) ?_
      refine og_iald (g := 11) (i := 12) (j := 1) (v := (st7.1 60 1)) hx hb hC hP (ow_q11_12) rfl (by unfold vp_in; decide) rfl rfl dX4_record_154 ?_
      refine og_iast (g := 11) (i := 9) (j := (((0 + (4 * (st5.1 56 0))) + 1).toNatClampNeg)) (v := (st7.1 60 1)) hx hb hC hP hS (ow_q11_9) rfl (by have h9 := at_0 (rc_lt hmz0 c_1); subst e7; subst e5; subst e4; subst e3; subst e2; simp (disch := decide) only [ow_si_ne]; exact at_in (d := 1) h9 (by decide)) rfl (we_11_9 st7 (((0 + (4 * (st5.1 56 0))) + 1).toNatClampNeg) (st7.1 60 1)) dX4_record_155 (fun H locs hP hS => ?_)
      obtain ⟨st8, e8⟩ : ∃ z, z = (ow_si st7 57 (((0 + (4 * (st5.1 56 0))) + 1).toNatClampNeg) (st7.1 60 1)) := ⟨_, rfl⟩
      rw [← e8] at hP
      refine lv_iinc (v := 2) (lv' := [(8, .int 2), (7, .int (0 + (4 * (st5.1 56 0)))), (6, .int (fX4_wrong_0_12 st5)), (0, .ref (ad 10 0)), (1, .int 0), (2, .int x2), (3, .int x3), (4, .int x4), (5, .int x5)]) hx hb dX4_record_156 hl (k := 0) rfl (by decide) (by decide) rfl (fun ls hl => ?_)
      refine lv_goto (tgt := 133) hx hb dX4_record_159 (by decide) ?_
      refine lv_iload hx hb dX4_record_133 (lv_at hl 0 rfl) ?_
      refine lv_iconst (v := 4) hx hb dX4_record_135 (by decide) ?_
      refine lv_icmp_ge (tgt := 162) hx hb dX4_record_136 (by decide) (fun c => absurd c (by decide)) (fun _ => ?_)
      refine lv_aload_n hx hb dX4_record_139 rfl (lv_at hl 3 rfl) ?_
      refine og_get (C := RX4) (T := TX4) (N := 19) (g := 10) (i := 0) (v := .ref (ad 11 9)) hx hb hts li_X4_record_0_X4 hown hC hP (ow_q10_0) rfl rfl 12 (by decide) (hts _ lk_X4_record_0_3) rfl rfl dX4_record_140 ?_
      refine lv_iload hx hb dX4_record_143 (lv_at hl 1 rfl) ?_
      refine lv_iload hx hb dX4_record_145 (lv_at hl 0 rfl) ?_
      refine lv_iadd hx hb dX4_record_147 ?_
      refine lv_aload_n hx hb dX4_record_148 rfl (lv_at hl 3 rfl) ?_
      refine og_get (C := RX4) (T := TX4) (N := 19) (g := 10) (i := 0) (v := .ref (ad 11 12)) hx hb hts li_X4_record_0_X4 hown hC hP (ow_q10_0) rfl rfl 18 (by decide) (hts _ lk_X4_record_0_2) rfl rfl dX4_record_149 ?_
      refine lv_iload hx hb dX4_record_152 (lv_at hl 0 rfl) ?_
      refine og_iald (g := 11) (i := 12) (j := 2) (v := (st8.1 60 2)) hx hb hC hP (ow_q11_12) rfl (by unfold vp_in; decide) rfl rfl dX4_record_154 ?_
      refine og_iast (g := 11) (i := 9) (j := (((0 + (4 * (st5.1 56 0))) + 2).toNatClampNeg)) (v := (st8.1 60 2)) hx hb hC hP hS (ow_q11_9) rfl (by have h9 := at_0 (rc_lt hmz0 c_1); subst e8; subst e7; subst e5; subst e4; subst e3; subst e2; simp (disch := decide) only [ow_si_ne]; exact at_in (d := 2) h9 (by decide)) rfl (we_11_9 st8 (((0 + (4 * (st5.1 56 0))) + 2).toNatClampNeg) (st8.1 60 2)) dX4_record_155 (fun H locs hP hS => ?_)
      obtain ⟨st9, e9⟩ : ∃ z, z = (ow_si st8 57 (((0 + (4 * (st5.1 56 0))) + 2).toNatClampNeg) (st8.1 60 2)) := ⟨_, rfl⟩
      rw [← e9] at hP
      refine lv_iinc (v := 3) (lv' := [(8, .int 3), (7, .int (0 + (4 * (st5.1 56 0)))), (6, .int (fX4_wrong_0_12 st5)), (0, .ref (ad 10 0)), (1, .int 0), (2, .int x2), (3, .int x3), (4, .int x4), (5, .int x5)]) hx hb dX4_record_156 hl (k := 0) rfl (by decide) (by decide) rfl (fun ls hl => ?_)
      refine lv_goto (tgt := 133) hx hb dX4_record_159 (by decide) ?_
      refine lv_iload hx hb dX4_record_133 (lv_at hl 0 rfl) ?_
      refine lv_iconst (v := 4) hx hb dX4_record_135 (by decide) ?_
      refine lv_icmp_ge (tgt := 162) hx hb dX4_record_136 (by decide) (fun c => absurd c (by decide)) (fun _ => ?_)
      refine lv_aload_n hx hb dX4_record_139 rfl (lv_at hl 3 rfl) ?_
      refine og_get (C := RX4) (T := TX4) (N := 19) (g := 10) (i := 0) (v := .ref (ad 11 9)) hx hb hts li_X4_record_0_X4 hown hC hP (ow_q10_0) rfl rfl 12 (by decide) (hts _ lk_X4_record_0_3) rfl rfl dX4_record_140 ?_
      refine lv_iload hx hb dX4_record_143 (lv_at hl 1 rfl) ?_
      refine lv_iload hx hb dX4_record_145 (lv_at hl 0 rfl) ?_
      refine lv_iadd hx hb dX4_record_147 ?_
      refine lv_aload_n hx hb dX4_record_148 rfl (lv_at hl 3 rfl) ?_
      refine og_get (C := RX4) (T := TX4) (N := 19) (g := 10) (i := 0) (v := .ref (ad 11 12)) hx hb hts li_X4_record_0_X4 hown hC hP (ow_q10_0) rfl rfl 18 (by decide) (hts _ lk_X4_record_0_2) rfl rfl dX4_record_149 ?_
      refine lv_iload hx hb dX4_record_152 (lv_at hl 0 rfl) ?_
      refine og_iald (g := 11) (i := 12) (j := 3) (v := (st9.1 60 3)) hx hb hC hP (ow_q11_12) rfl (by unfold vp_in; decide) rfl rfl dX4_record_154 ?_
      refine og_iast (g := 11) (i := 9) (j := (((0 + (4 * (st5.1 56 0))) + 3).toNatClampNeg)) (v := (st9.1 60 3)) hx hb hC hP hS (ow_q11_9) rfl (by have h9 := at_0 (rc_lt hmz0 c_1); subst e9; subst e8; subst e7; subst e5; subst e4; subst e3; subst e2; simp (disch := decide) only [ow_si_ne]; exact at_in (d := 3) h9 (by decide)) rfl (we_11_9 st9 (((0 + (4 * (st5.1 56 0))) + 3).toNatClampNeg) (st9.1 60 3)) dX4_record_155 (fun H locs hP hS => ?_)
      obtain ⟨st10, e10⟩ : ∃ z, z = (ow_si st9 57 (((0 + (4 * (st5.1 56 0))) + 3).toNatClampNeg) (st9.1 60 3)) := ⟨_, rfl⟩
      rw [← e10] at hP
      refine lv_iinc (v := 4) (lv' := [(8, .int 4), (7, .int (0 + (4 * (st5.1 56 0)))), (6, .int (fX4_wrong_0_12 st5)), (0, .ref (ad 10 0)), (1, .int 0), (2, .int x2), (3, .int x3), (4, .int x4), (5, .int x5)]) hx hb dX4_record_156 hl (k := 0) rfl (by decide) (by decide) rfl (fun ls hl => ?_)
      refine lv_goto (tgt := 133) hx hb dX4_record_159 (by decide) ?_
      refine lv_iload hx hb dX4_record_133 (lv_at hl 0 rfl) ?_
      refine lv_iconst (v := 4) hx hb dX4_record_135 (by decide) ?_
      refine lv_icmp_ge (tgt := 162) hx hb dX4_record_136 (by decide) (fun _ => ?_) (fun c => absurd (by decide) c)
      refine lv_aload_n hx hb dX4_record_162 rfl (lv_at hl 3 rfl) ?_
      refine lv_iload_n hx hb dX4_record_163 rfl (lv_at hl 4 rfl) ?_
      refine lv_aload_n hx hb dX4_record_164 rfl (lv_at hl 3 rfl) ?_
      refine og_get (C := RX4) (T := TX4) (N := 19) (g := 10) (i := 0) (v := .ref (ad 11 12)) hx hb hts li_X4_record_0_X4 hown hC hP (ow_q10_0) rfl rfl 18 (by decide) (hts _ lk_X4_record_0_2) rfl rfl dX4_record_165 ?_
      refine lv_iconst (v := 0) hx hb dX4_record_168 (by decide) ?_
      refine og_cvW (og_runV (C := RX4) (T := TX4) (N := 19) (g := 10) (i := 0) (As := [.int 0, .ref (ad 11 12), .int 0]) (rest := []) ⟨hx, hb, hml, hown, hts⟩ (kX4_take_12 l D ca ad A st10 0) (cwV 3 hts gX4_record_X4_take rfl rfl rfl (by decide +kernel) ⟨Nat.le_of_ble_eq_true rfl, Nat.le_of_ble_eq_true rfl⟩) hC hP hS (ow_q10_0) rfl rfl rfl hl.1 rfl (Nat.le_of_ble_eq_true rfl) dX4_record_169 ⟨Nat.zero_le _, Nat.zero_le _⟩) hS (fun H locs hP hS => ?_)
      obtain ⟨st11, e11⟩ : ∃ z, z = (fX4_take_12 st10 0) := ⟨_, rfl⟩
      rw [← e11] at hP
      refine lv_aload_n hx hb dX4_record_172 rfl (lv_at hl 3 rfl) ?_
      refine og_get (C := RX4) (T := TX4) (N := 19) (g := 10) (i := 0) (v := .ref (ad 11 8)) hx hb hts li_X4_record_0_X4 hown hC hP (ow_q10_0) rfl rfl 11 (by decide) (hts _ lk_X4_record_0_1) rfl rfl dX4_record_173 ?_
      refine lv_iload_n hx hb dX4_record_176 rfl (lv_at hl 4 rfl) ?_
      refine lv_dup2_11 hx hb dX4_record_177 rfl rfl ?_
      refine og_iald (g := 11) (i := 8) (j := 0) (v := (st11.1 56 0)) hx hb hC hP (ow_q11_8) rfl (by unfold vp_in; decide) rfl rfl dX4_record_178 ?_
      refine lv_iconst (v := 1) hx hb dX4_record_179 (by decide) ?_
      refine lv_iadd hx hb dX4_record_180 ?_
      refine og_iast (g := 11) (i := 8) (j := 0) (v := ((st11.1 56 0) + 1)) hx hb hC hP hS (ow_q11_8) rfl (by unfold vp_in; decide) rfl (we_11_8 st11 0 ((st11.1 56 0) + 1)) dX4_record_181 (fun H locs hP hS => ?_)
      obtain ⟨st12, e12⟩ : ∃ z, z = (ow_si st11 56 0 ((st11.1 56 0) + 1)) := ⟨_, rfl⟩
      rw [← e12] at hP
      refine lv_aload_n hx hb dX4_record_182 rfl (lv_at hl 3 rfl) ?_
      refine og_get (C := RX4) (T := TX4) (N := 19) (g := 10) (i := 0) (v := .ref (ad 11 8)) hx hb hts li_X4_record_0_X4 hown hC hP (ow_q10_0) rfl rfl 11 (by decide) (hts _ lk_X4_record_0_1) rfl rfl dX4_record_183 ?_
      refine lv_iload_n hx hb dX4_record_186 rfl (lv_at hl 4 rfl) ?_
      refine og_iald (g := 11) (i := 8) (j := 0) (v := (st12.1 56 0)) hx hb hC hP (ow_q11_8) rfl (by unfold vp_in; decide) rfl rfl dX4_record_187 ?_
      refine lv_iconst (v := 1) hx hb dX4_record_188 (by decide) ?_
      refine lv_isub hx hb dX4_record_189 ?_
      exact W.iret (v := ((st12.1 56 0) - 1)) hx hb hr (fun t ht hW => ⟨⟨((st12.1 56 0) - 1), st12, rfl, (by subst e12; subst e11; subst e10; subst e9; subst e8; subst e7; subst e5; subst e4; subst e3; subst e2; simp only [fX4_record_0, if_neg c_1, if_pos c_6]), ow_Bi ht hP⟩, hS.F ht⟩) hS.2.2 dX4_record_190
    · refine lv_aload_n hx hb dX4_record_99 rfl (lv_at hl 1 rfl) ?_
      refine lv_dup hx hb dX4_record_100 rfl ?_
      refine og_get (C := RX4) (T := TX4) (N := 19) (g := 10) (i := 0) (v := .int (st5.1 61 1)) hx hb hts li_X4_record_0_X4 hown hC hP (ow_q10_0) rfl rfl 8 (by decide) (hts _ lk_X4_record_0_4) rfl rfl dX4_record_101 ?_
      refine lv_iconst (v := 1) hx hb dX4_record_104 (by decide) ?_
      refine lv_iadd hx hb dX4_record_105 ?_
      refine og_put (C := RX4) (T := TX4) (N := 19) (g := 10) (i := 0) (v := .int ((st5.1 61 1) + 1)) (ty := .int) hx hb hts li_X4_record_0_X4 tyX4 tyX4_ok nmX4 hown hC hP hS (ow_q10_0) rfl rfl 8 (by decide) (hts _ lk_X4_record_0_4) rfl rfl (by decide +kernel) rfl rfl (Nat.le_of_ble_eq_true rfl) (we_10_1 st5 ((st5.1 61 1) + 1)) dX4_record_106 (fun H locs hP hS => ?_)
      obtain ⟨st13, e13⟩ : ∃ z, z = (ow_si st5 61 1 ((st5.1 61 1) + 1)) := ⟨_, rfl⟩
      rw [← e13] at hP
      refine lv_bipush (v := (-10)) hx hb dX4_record_109 (by decide) ?_
      refine lv_iload hx hb dX4_record_111 (lv_at hl 0 rfl) ?_
      refine lv_isub hx hb dX4_record_113 ?_
      exact W.iret (v := ((-10) - (fX4_wrong_0_12 st5))) hx hb hr (fun t ht hW => ⟨⟨((-10) - (fX4_wrong_0_12 st5)), st13, rfl, (by subst e13; subst e5; subst e4; subst e3; subst e2; simp only [fX4_record_0, if_neg c_1, if_neg c_6]), ow_Bi ht hP⟩, hS.F ht⟩) hS.2.2 dX4_record_114
  · refine lv_bipush (v := (-2)) hx hb dX4_record_20 (by decide) ?_
    exact W.iret (v := (-2)) hx hb hr (fun t ht hW => ⟨⟨(-2), st, rfl, (by simp only [fX4_record_0, if_pos c_1]), ow_Bi ht hP⟩, hS.F ht⟩) hS.2.2 dX4_record_22

theorem li_X4_lay_0_X4 : ∀ w ∈ u_ws RX4 TX4 19, w ∈ wsX4_lay := by decide +kernel
theorem lk_X4_lay_0_1 : (.fieldLink RX4 63 "RecordLabelsModel" "cells" "[I" : Cond) ∈ wsX4_lay := by decide +kernel
def fX4_lay_0 (st : ow_St) (x2 x3 x4 : Int32) : Int32 × ow_St := (if (fX4_isCell_0 st x2 x3) = 0 then ((-1), st) else (if (fX4_kindOf_0 st x3) = (-4) then (let st3 := (ow_si st 57 (((0 + (4 * x2)) + x3).toNatClampNeg) x4); (1, st3)) else (let st4 := (ow_si st 57 (((0 + (4 * x2)) + x3).toNatClampNeg) (fX4_constant st (fX4_kindOf_0 st x3) x4)); (1, st4))))
set_option maxHeartbeats 4000000 in
set_option maxRecDepth 100000 in
theorem kX4_lay_0 (l : Launch) (D : va_G) (ca : Nat → ClassId) (ad : ow_Ad) (A : Nat → Prop) (st : ow_St) (x2 : Int32) (x3 : Int32) (x4 : Int32) (hmz0 : iv_mz st 0) : Met l yX4_lay wsX4_lay ({ frames := 3, cells := 0, slots := 0, locals := 66 }) (va_Pc [.ref (ad 10 0), .int 0, .int x2, .int x3, .int x4] (ow_W D ca ad A st)) (va_Qi (fun r st' => (r, st') = (fX4_lay_0 st x2 x3 x4)) (ow_B D ca ad) A) 0 0 A := by
  refine Met.ofW (cc := cX4_lay) (maxL := 6) (ret := (some .int)) (by decide) rfl ?_
  intro p e s m args below meth c s₁ B hml hv
  obtain ⟨rfl, hP, hC⟩ := hv
  have hx := B.exec
  have hb := B.bytes
  have hr := B.returns
  have hts := atoms_spec (ws := wsX4_lay) B.pre
  have hown : s.vm.findClass RX4 = some m.cls := findClass_of_methodNamed B.named
  have hlocks := B.notSynchronized
  have hS : va_S A s.heap s.heap [] := va_S.rf
  have hl := lv_entry ([.ref (ad 10 0), .int 0, .int x2, .int x3, .int x4]) (n := 6) (Nat.le_of_ble_eq_true rfl)
  rw [lg_entry_eq]
  generalize (lg_sl ([.ref (ad 10 0), .int 0, .int x2, .int x3, .int x4]) ++ List.replicate (6 - (lg_sl ([.ref (ad 10 0), .int 0, .int x2, .int x3, .int x4])).length) Slot.unset).toArray = ls at hl ⊢
  have hl : lv_has ls 6 [(0, .ref (ad 10 0)), (1, .int 0), (2, .int x2), (3, .int x3), (4, .int x4)] := hl
  refine lv_aload_n hx hb dX4_lay_0 rfl (lv_at hl 0 rfl) ?_
  refine lv_iload_n hx hb dX4_lay_1 rfl (lv_at hl 1 rfl) ?_
  refine lv_iload_n hx hb dX4_lay_2 rfl (lv_at hl 2 rfl) ?_
  refine lv_iload_n hx hb dX4_lay_3 rfl (lv_at hl 3 rfl) ?_
  refine og_ciP (og_runV (C := RX4) (T := TX4) (N := 19) (g := 10) (i := 0) (As := [.int 0, .int x2, .int x3]) (rest := []) ⟨hx, hb, hml, hown, hts⟩ (kX4_isCell_0 l D ca ad A st x2 x3) (cwV 3 hts gX4_lay_X4_isCell rfl rfl rfl (by decide +kernel) ⟨Nat.le_of_ble_eq_true rfl, Nat.le_of_ble_eq_true rfl⟩) hC hP hS (ow_q10_0) rfl rfl rfl hl.1 rfl (Nat.le_of_ble_eq_true rfl) dX4_lay_4 ⟨Nat.zero_le _, Nat.zero_le _⟩) hS (fun H locs hP hS => ?_)
  refine lv_if_ne (tgt := 12) hx hb dX4_lay_7 (by decide) (fun c_1 => ?_) (fun c_1 => ?_)
  · refine lv_iload_n hx hb dX4_lay_12 rfl (lv_at hl 1 rfl) ?_
    refine lv_iload_n hx hb dX4_lay_13 rfl (lv_at hl 3 rfl) ?_
    refine og_ciP (og_runS (As := [.int 0, .int x3]) (rest := []) ⟨hx, hb, hml, hown, hts⟩ (kX4_kindOf_0 l D ca ad A st x3) (va_cwS 2 hts gX4_lay_X4_kindOf rfl rfl rfl (by decide +kernel) ⟨Nat.le_of_ble_eq_true rfl, Nat.le_of_ble_eq_true rfl⟩) hC hP hS rfl hl.1 rfl (Nat.le_of_ble_eq_true rfl) dX4_lay_14 ⟨Nat.zero_le _, Nat.zero_le _⟩) hS (fun H locs hP hS => ?_)
    refine lv_istore (lv' := [(5, .int (fX4_kindOf_0 st x3)), (0, .ref (ad 10 0)), (1, .int 0), (2, .int x2), (3, .int x3), (4, .int x4)]) hx hb dX4_lay_17 hl (by decide) rfl (fun ls hl => ?_)
    refine lv_aload_n hx hb dX4_lay_19 rfl (lv_at hl 1 rfl) ?_
    refine og_get (C := RX4) (T := TX4) (N := 19) (g := 10) (i := 0) (v := .ref (ad 11 9)) hx hb hts li_X4_lay_0_X4 hown hC hP (ow_q10_0) rfl rfl 12 (by decide) (hts _ lk_X4_lay_0_1) rfl rfl dX4_lay_20 ?_
    refine lv_bipush (v := 120) hx hb dX4_lay_23 (by decide) ?_
    refine lv_iload_n hx hb dX4_lay_25 rfl (lv_at hl 2 rfl) ?_
    refine lv_imul hx hb dX4_lay_26 ?_
    rw [show (120 : Int32) * 0 = (0 : Int32) from rfl]
    refine lv_iconst (v := 4) hx hb dX4_lay_27 (by decide) ?_
    refine lv_iload_n hx hb dX4_lay_28 rfl (lv_at hl 3 rfl) ?_
    refine lv_imul hx hb dX4_lay_29 ?_
    refine lv_iadd hx hb dX4_lay_30 ?_
    refine lv_iload_n hx hb dX4_lay_31 rfl (lv_at hl 4 rfl) ?_
    refine lv_iadd hx hb dX4_lay_32 ?_
    refine lv_iload hx hb dX4_lay_33 (lv_at hl 0 rfl) ?_
    refine lv_bipush (v := (-4)) hx hb dX4_lay_35 (by decide) ?_
    refine lv_icmp_ne (tgt := 45) hx hb dX4_lay_37 (by decide) (fun c_2 => ?_) (fun c_2 => ?_)
    · refine lv_aload_n hx hb dX4_lay_45 rfl (lv_at hl 1 rfl) ?_
      refine lv_iload hx hb dX4_lay_46 (lv_at hl 0 rfl) ?_
      refine lv_iload hx hb dX4_lay_48 (lv_at hl 5 rfl) ?_
      refine og_ciP (og_runV (C := RX4) (T := TX4) (N := 19) (g := 10) (i := 0) (As := [.int (fX4_kindOf_0 st x3), .int x4]) (rest := [.int ((0 + (4 * x2)) + x3), .ref (ad 11 9)]) ⟨hx, hb, hml, hown, hts⟩ (kX4_constant l D ca ad A st (fX4_kindOf_0 st x3) x4 (kd_in_0 c_2)) (cwV 2 hts gX4_lay_X4_constant rfl rfl rfl (by decide +kernel) ⟨Nat.le_of_ble_eq_true rfl, Nat.le_of_ble_eq_true rfl⟩) hC hP hS (ow_q10_0) rfl rfl rfl hl.1 rfl (Nat.le_of_ble_eq_true rfl) dX4_lay_50 ⟨Nat.zero_le _, Nat.zero_le _⟩) hS (fun H locs hP hS => ?_)
      refine og_iast (g := 11) (i := 9) (j := (((0 + (4 * x2)) + x3).toNatClampNeg)) (v := (fX4_constant st (fX4_kindOf_0 st x3) x4)) hx hb hC hP hS (ow_q11_9) rfl (at_inx (rcx_0 hmz0 c_1) (ity_0 c_1)) rfl (we_11_9 st (((0 + (4 * x2)) + x3).toNatClampNeg) (fX4_constant st (fX4_kindOf_0 st x3) x4)) dX4_lay_53 (fun H locs hP hS => ?_)
      obtain ⟨st4, e4⟩ : ∃ z, z = (ow_si st 57 (((0 + (4 * x2)) + x3).toNatClampNeg) (fX4_constant st (fX4_kindOf_0 st x3) x4)) := ⟨_, rfl⟩
      rw [← e4] at hP
      refine lv_iconst (v := 1) hx hb dX4_lay_54 (by decide) ?_
      exact W.iret (v := 1) hx hb hr (fun t ht hW => ⟨⟨1, st4, rfl, (by subst e4; simp only [fX4_lay_0, if_neg c_1, if_neg c_2]), ow_Bi ht hP⟩, hS.F ht⟩) hS.2.2 dX4_lay_55
    · refine lv_iload hx hb dX4_lay_40 (lv_at hl 5 rfl) ?_
      refine lv_goto (tgt := 53) hx hb dX4_lay_42 (by decide) ?_
      refine og_iast (g := 11) (i := 9) (j := (((0 + (4 * x2)) + x3).toNatClampNeg)) (v := x4) hx hb hC hP hS (ow_q11_9) rfl (at_inx (rcx_0 hmz0 c_1) (ity_0 c_1)) rfl (we_11_9 st (((0 + (4 * x2)) + x3).toNatClampNeg) x4) dX4_lay_53 (fun H locs hP hS => ?_)
      obtain ⟨st3, e3⟩ : ∃ z, z = (ow_si st 57 (((0 + (4 * x2)) + x3).toNatClampNeg) x4) := ⟨_, rfl⟩
      rw [← e3] at hP
      refine lv_iconst (v := 1) hx hb dX4_lay_54 (by decide) ?_
      exact W.iret (v := 1) hx hb hr (fun t ht hW => ⟨⟨1, st3, rfl, (by subst e3; simp only [fX4_lay_0, if_neg c_1, if_pos c_2]), ow_Bi ht hP⟩, hS.F ht⟩) hS.2.2 dX4_lay_55
  · refine lv_iconst (v := (-1)) hx hb dX4_lay_10 (by decide) ?_
    exact W.iret (v := (-1)) hx hb hr (fun t ht hW => ⟨⟨(-1), st, rfl, (by simp only [fX4_lay_0, if_pos c_1]), ow_Bi ht hP⟩, hS.F ht⟩) hS.2.2 dX4_lay_11

theorem lk_X4_cell_0_0 : (.constant RX4 167 (-2000000000) : Cond) ∈ wsX4_cell := by decide +kernel
theorem li_X4_cell_0_X4 : ∀ w ∈ u_ws RX4 TX4 19, w ∈ wsX4_cell := by decide +kernel
theorem lk_X4_cell_0_2 : (.fieldLink RX4 63 "RecordLabelsModel" "cells" "[I" : Cond) ∈ wsX4_cell := by decide +kernel
def fX4_cell_0 (st : ow_St) (x2 x3 : Int32) : Int32 := (if (fX4_isCell_0 st x2 x3) = 0 then (-2000000000) else (fX4_toldOf_0 st x3 (st.1 57 (((0 + (4 * x2)) + x3).toNatClampNeg))))
set_option maxHeartbeats 4000000 in
set_option maxRecDepth 100000 in
theorem kX4_cell_0 (l : Launch) (D : va_G) (ca : Nat → ClassId) (ad : ow_Ad) (A : Nat → Prop) (st : ow_St) (x2 : Int32) (x3 : Int32) (hmz0 : iv_mz st 0) (hcl : iv_mcl st) : Met l yX4_cell wsX4_cell ({ frames := 2, cells := 0, slots := 0, locals := 46 }) (va_Pc [.ref (ad 10 0), .int 0, .int x2, .int x3] (ow_W D ca ad A st)) (va_Qi (fun r st' => r = (fX4_cell_0 st x2 x3) ∧ st' = st) (ow_B D ca ad) A) 0 0 A := by
  refine Met.ofW (cc := cX4_cell) (maxL := 4) (ret := (some .int)) (by decide) rfl ?_
  intro p e s m args below meth c s₁ B hml hv
  obtain ⟨rfl, hP, hC⟩ := hv
  have hx := B.exec
  have hb := B.bytes
  have hr := B.returns
  have hts := atoms_spec (ws := wsX4_cell) B.pre
  have hown : s.vm.findClass RX4 = some m.cls := findClass_of_methodNamed B.named
  have hlocks := B.notSynchronized
  have hS : va_S A s.heap s.heap [] := va_S.rf
  have hl := lv_entry ([.ref (ad 10 0), .int 0, .int x2, .int x3]) (n := 4) (Nat.le_of_ble_eq_true rfl)
  rw [lg_entry_eq]
  generalize (lg_sl ([.ref (ad 10 0), .int 0, .int x2, .int x3]) ++ List.replicate (4 - (lg_sl ([.ref (ad 10 0), .int 0, .int x2, .int x3])).length) Slot.unset).toArray = ls at hl ⊢
  have hl : lv_has ls 4 [(0, .ref (ad 10 0)), (1, .int 0), (2, .int x2), (3, .int x3)] := hl
  refine lv_aload_n hx hb dX4_cell_0 rfl (lv_at hl 0 rfl) ?_
  refine lv_iload_n hx hb dX4_cell_1 rfl (lv_at hl 1 rfl) ?_
  refine lv_iload_n hx hb dX4_cell_2 rfl (lv_at hl 2 rfl) ?_
  refine lv_iload_n hx hb dX4_cell_3 rfl (lv_at hl 3 rfl) ?_
  refine og_ciP (og_runV (C := RX4) (T := TX4) (N := 19) (g := 10) (i := 0) (As := [.int 0, .int x2, .int x3]) (rest := []) ⟨hx, hb, hml, hown, hts⟩ (kX4_isCell_0 l D ca ad A st x2 x3) (cwV 3 hts gX4_cell_X4_isCell rfl rfl rfl (by decide +kernel) ⟨Nat.le_of_ble_eq_true rfl, Nat.le_of_ble_eq_true rfl⟩) hC hP hS (ow_q10_0) rfl rfl rfl hl.1 rfl (Nat.le_of_ble_eq_true rfl) dX4_cell_4 ⟨Nat.zero_le _, Nat.zero_le _⟩) hS (fun H locs hP hS => ?_)
  refine lv_if_eq (tgt := 34) hx hb dX4_cell_7 (by decide) (fun c_1 => ?_) (fun c_1 => ?_)
  · refine lv_ldc (v := (-2000000000)) hx hb hown (hts _ lk_X4_cell_0_0) dX4_cell_34 ?_
    exact W.iret (v := (-2000000000)) hx hb hr (fun t ht hW => ⟨⟨(-2000000000), st, rfl, ⟨(by simp only [fX4_cell_0, if_pos c_1]), rfl⟩, ow_Bi ht hP⟩, hS.F ht⟩) hS.2.2 dX4_cell_36
  · refine lv_aload_n hx hb dX4_cell_10 rfl (lv_at hl 0 rfl) ?_
    refine lv_iload_n hx hb dX4_cell_11 rfl (lv_at hl 1 rfl) ?_
    refine lv_iload_n hx hb dX4_cell_12 rfl (lv_at hl 3 rfl) ?_
    refine lv_aload_n hx hb dX4_cell_13 rfl (lv_at hl 0 rfl) ?_
    refine og_get (C := RX4) (T := TX4) (N := 19) (g := 10) (i := 0) (v := .ref (ad 11 9)) hx hb hts li_X4_cell_0_X4 hown hC hP (ow_q10_0) rfl rfl 12 (by decide) (hts _ lk_X4_cell_0_2) rfl rfl dX4_cell_14 ?_
    refine lv_bipush (v := 120) hx hb dX4_cell_17 (by decide) ?_
    refine lv_iload_n hx hb dX4_cell_19 rfl (lv_at hl 1 rfl) ?_
    refine lv_imul hx hb dX4_cell_20 ?_
    rw [show (120 : Int32) * 0 = (0 : Int32) from rfl]
    refine lv_iconst (v := 4) hx hb dX4_cell_21 (by decide) ?_
    refine lv_iload_n hx hb dX4_cell_22 rfl (lv_at hl 2 rfl) ?_
    refine lv_imul hx hb dX4_cell_23 ?_
    refine lv_iadd hx hb dX4_cell_24 ?_
    refine lv_iload_n hx hb dX4_cell_25 rfl (lv_at hl 3 rfl) ?_
    refine lv_iadd hx hb dX4_cell_26 ?_
    refine og_iald (g := 11) (i := 9) (j := (((0 + (4 * x2)) + x3).toNatClampNeg)) (v := (st.1 57 (((0 + (4 * x2)) + x3).toNatClampNeg))) hx hb hC hP (ow_q11_9) rfl (at_inx (rcx_0 hmz0 c_1) (ity_0 c_1)) rfl rfl dX4_cell_27 ?_
    refine og_ciP (og_runV (C := RX4) (T := TX4) (N := 19) (g := 10) (i := 0) (As := [.int 0, .int x3, .int (st.1 57 (((0 + (4 * x2)) + x3).toNatClampNeg))]) (rest := []) ⟨hx, hb, hml, hown, hts⟩ (kX4_toldOf_0 l D ca ad A st x3 (st.1 57 (((0 + (4 * x2)) + x3).toNatClampNeg)) (cl_00 hcl (rc_of hmz0 (cel_0 c_1).1)) (cl_02 hcl (rc_of hmz0 (cel_0 c_1).1))) (cwV 3 hts gX4_cell_X4_toldOf rfl rfl rfl (by decide +kernel) ⟨Nat.le_of_ble_eq_true rfl, Nat.le_of_ble_eq_true rfl⟩) hC hP hS (ow_q10_0) rfl rfl rfl hl.1 rfl (Nat.le_of_ble_eq_true rfl) dX4_cell_28 ⟨Nat.zero_le _, Nat.zero_le _⟩) hS (fun H locs hP hS => ?_)
    refine lv_goto (tgt := 36) hx hb dX4_cell_31 (by decide) ?_
    exact W.iret (v := (fX4_toldOf_0 st x3 (st.1 57 (((0 + (4 * x2)) + x3).toNatClampNeg)))) hx hb hr (fun t ht hW => ⟨⟨(fX4_toldOf_0 st x3 (st.1 57 (((0 + (4 * x2)) + x3).toNatClampNeg))), st, rfl, ⟨(by simp only [fX4_cell_0, if_neg c_1]), rfl⟩, ow_Bi ht hP⟩, hS.F ht⟩) hS.2.2 dX4_cell_36

theorem li_X4_back_0_X4 : ∀ w ∈ u_ws RX4 TX4 19, w ∈ wsX4_back := by decide +kernel
theorem lk_X4_back_0_1 : (.fieldLink RX4 63 "RecordLabelsModel" "cells" "[I" : Cond) ∈ wsX4_back := by decide +kernel
theorem lk_X4_back_0_2 : (.fieldLink RX4 144 "RecordLabelsModel" "wrongs" "I" : Cond) ∈ wsX4_back := by decide +kernel
def fX4_back_0 (st : ow_St) (x2 : Int32) : Int32 × ow_St := (if (fX4_isCell_0 st x2 0) = 0 then ((-1), st) else (if (fX4_wrong_0_9 st (0 + (4 * x2))) = (-4) then (let st3 := (fX4_take_9 st 0 (0 + (4 * x2))); (1, st3)) else (let st4 := (ow_si st 61 1 ((st.1 61 1) + 1)); (((-10) - (fX4_wrong_0_9 st (0 + (4 * x2)))), st4))))
set_option maxHeartbeats 4000000 in
set_option maxRecDepth 100000 in
theorem kX4_back_0 (l : Launch) (D : va_G) (ca : Nat → ClassId) (ad : ow_Ad) (A : Nat → Prop) (st : ow_St) (x2 : Int32) (hmz0 : iv_mz st 0) : Met l yX4_back wsX4_back ({ frames := 2, cells := 0, slots := 0, locals := 46 }) (va_Pc [.ref (ad 10 0), .int 0, .int x2] (ow_W D ca ad A st)) (va_Qi (fun r st' => (r, st') = (fX4_back_0 st x2)) (ow_B D ca ad) A) 0 0 A := by
  refine Met.ofW (cc := cX4_back) (maxL := 5) (ret := (some .int)) (by decide) rfl ?_
  intro p e s m args below meth c s₁ B hml hv
  obtain ⟨rfl, hP, hC⟩ := hv
  have hx := B.exec
  have hb := B.bytes
  have hr := B.returns
  have hts := atoms_spec (ws := wsX4_back) B.pre
  have hown : s.vm.findClass RX4 = some m.cls := findClass_of_methodNamed B.named
  have hlocks := B.notSynchronized
  have hS : va_S A s.heap s.heap [] := va_S.rf
  have hl := lv_entry ([.ref (ad 10 0), .int 0, .int x2]) (n := 5) (Nat.le_of_ble_eq_true rfl)
  rw [lg_entry_eq]
  generalize (lg_sl ([.ref (ad 10 0), .int 0, .int x2]) ++ List.replicate (5 - (lg_sl ([.ref (ad 10 0), .int 0, .int x2])).length) Slot.unset).toArray = ls at hl ⊢
  have hl : lv_has ls 5 [(0, .ref (ad 10 0)), (1, .int 0), (2, .int x2)] := hl
  refine lv_aload_n hx hb dX4_back_0 rfl (lv_at hl 0 rfl) ?_
  refine lv_iload_n hx hb dX4_back_1 rfl (lv_at hl 1 rfl) ?_
  refine lv_iload_n hx hb dX4_back_2 rfl (lv_at hl 2 rfl) ?_
  refine lv_iconst (v := 0) hx hb dX4_back_3 (by decide) ?_
  refine og_ciP (og_runV (C := RX4) (T := TX4) (N := 19) (g := 10) (i := 0) (As := [.int 0, .int x2, .int 0]) (rest := []) ⟨hx, hb, hml, hown, hts⟩ (kX4_isCell_0 l D ca ad A st x2 0) (cwV 3 hts gX4_back_X4_isCell rfl rfl rfl (by decide +kernel) ⟨Nat.le_of_ble_eq_true rfl, Nat.le_of_ble_eq_true rfl⟩) hC hP hS (ow_q10_0) rfl rfl rfl hl.1 rfl (Nat.le_of_ble_eq_true rfl) dX4_back_4 ⟨Nat.zero_le _, Nat.zero_le _⟩) hS (fun H locs hP hS => ?_)
  refine lv_if_ne (tgt := 12) hx hb dX4_back_7 (by decide) (fun c_1 => ?_) (fun c_1 => ?_)
  · refine lv_bipush (v := 120) hx hb dX4_back_12 (by decide) ?_
    refine lv_iload_n hx hb dX4_back_14 rfl (lv_at hl 1 rfl) ?_
    refine lv_imul hx hb dX4_back_15 ?_
    rw [show (120 : Int32) * 0 = (0 : Int32) from rfl]
    refine lv_iconst (v := 4) hx hb dX4_back_16 (by decide) ?_
    refine lv_iload_n hx hb dX4_back_17 rfl (lv_at hl 2 rfl) ?_
    refine lv_imul hx hb dX4_back_18 ?_
    refine lv_iadd hx hb dX4_back_19 ?_
    refine lv_istore_n (lv' := [(3, .int (0 + (4 * x2))), (0, .ref (ad 10 0)), (1, .int 0), (2, .int x2)]) hx hb dX4_back_20 rfl hl (by decide) rfl (fun ls hl => ?_)
    refine lv_aload_n hx hb dX4_back_21 rfl (lv_at hl 1 rfl) ?_
    refine lv_iload_n hx hb dX4_back_22 rfl (lv_at hl 2 rfl) ?_
    refine lv_aload_n hx hb dX4_back_23 rfl (lv_at hl 1 rfl) ?_
    refine og_get (C := RX4) (T := TX4) (N := 19) (g := 10) (i := 0) (v := .ref (ad 11 9)) hx hb hts li_X4_back_0_X4 hown hC hP (ow_q10_0) rfl rfl 12 (by decide) (hts _ lk_X4_back_0_1) rfl rfl dX4_back_24 ?_
    refine lv_iload_n hx hb dX4_back_27 rfl (lv_at hl 0 rfl) ?_
    refine og_ciP (og_runV (C := RX4) (T := TX4) (N := 19) (g := 10) (i := 0) (As := [.int 0, .ref (ad 11 9), .int (0 + (4 * x2))]) (rest := []) ⟨hx, hb, hml, hown, hts⟩ (kX4_wrong_0_9 l D ca ad A st (0 + (4 * x2)) (rcx_0 hmz0 c_1)) (cwV 3 hts gX4_back_X4_wrong rfl rfl rfl (by decide +kernel) ⟨Nat.le_of_ble_eq_true rfl, Nat.le_of_ble_eq_true rfl⟩) hC hP hS (ow_q10_0) rfl rfl rfl hl.1 rfl (Nat.le_of_ble_eq_true rfl) dX4_back_28 ⟨Nat.zero_le _, Nat.zero_le _⟩) hS (fun H locs hP hS => ?_)
    refine lv_istore (lv' := [(4, .int (fX4_wrong_0_9 st (0 + (4 * x2)))), (3, .int (0 + (4 * x2))), (0, .ref (ad 10 0)), (1, .int 0), (2, .int x2)]) hx hb dX4_back_31 hl (by decide) rfl (fun ls hl => ?_)
    refine lv_iload hx hb dX4_back_33 (lv_at hl 0 rfl) ?_
    refine lv_bipush (v := (-4)) hx hb dX4_back_35 (by decide) ?_
    refine lv_icmp_eq (tgt := 56) hx hb dX4_back_37 (by decide) (fun c_2 => ?_) (fun c_2 => ?_)
    · refine lv_aload_n hx hb dX4_back_56 rfl (lv_at hl 2 rfl) ?_
      refine lv_iload_n hx hb dX4_back_57 rfl (lv_at hl 3 rfl) ?_
      refine lv_aload_n hx hb dX4_back_58 rfl (lv_at hl 2 rfl) ?_
      refine og_get (C := RX4) (T := TX4) (N := 19) (g := 10) (i := 0) (v := .ref (ad 11 9)) hx hb hts li_X4_back_0_X4 hown hC hP (ow_q10_0) rfl rfl 12 (by decide) (hts _ lk_X4_back_0_1) rfl rfl dX4_back_59 ?_
      refine lv_iload_n hx hb dX4_back_62 rfl (lv_at hl 1 rfl) ?_
      refine og_cvW (og_runV (C := RX4) (T := TX4) (N := 19) (g := 10) (i := 0) (As := [.int 0, .ref (ad 11 9), .int (0 + (4 * x2))]) (rest := []) ⟨hx, hb, hml, hown, hts⟩ (kX4_take_9 l D ca ad A st 0 (0 + (4 * x2)) (rcx_0 hmz0 c_1)) (cwV 3 hts gX4_back_X4_take rfl rfl rfl (by decide +kernel) ⟨Nat.le_of_ble_eq_true rfl, Nat.le_of_ble_eq_true rfl⟩) hC hP hS (ow_q10_0) rfl rfl rfl hl.1 rfl (Nat.le_of_ble_eq_true rfl) dX4_back_63 ⟨Nat.zero_le _, Nat.zero_le _⟩) hS (fun H locs hP hS => ?_)
      obtain ⟨st3, e3⟩ : ∃ z, z = (fX4_take_9 st 0 (0 + (4 * x2))) := ⟨_, rfl⟩
      rw [← e3] at hP
      refine lv_iconst (v := 1) hx hb dX4_back_66 (by decide) ?_
      exact W.iret (v := 1) hx hb hr (fun t ht hW => ⟨⟨1, st3, rfl, (by subst e3; simp only [fX4_back_0, if_neg c_1, if_pos c_2]), ow_Bi ht hP⟩, hS.F ht⟩) hS.2.2 dX4_back_67
    · refine lv_aload_n hx hb dX4_back_40 rfl (lv_at hl 2 rfl) ?_
      refine lv_dup hx hb dX4_back_41 rfl ?_
      refine og_get (C := RX4) (T := TX4) (N := 19) (g := 10) (i := 0) (v := .int (st.1 61 1)) hx hb hts li_X4_back_0_X4 hown hC hP (ow_q10_0) rfl rfl 8 (by decide) (hts _ lk_X4_back_0_2) rfl rfl dX4_back_42 ?_
      refine lv_iconst (v := 1) hx hb dX4_back_45 (by decide) ?_
      refine lv_iadd hx hb dX4_back_46 ?_
      refine og_put (C := RX4) (T := TX4) (N := 19) (g := 10) (i := 0) (v := .int ((st.1 61 1) + 1)) (ty := .int) hx hb hts li_X4_back_0_X4 tyX4 tyX4_ok nmX4 hown hC hP hS (ow_q10_0) rfl rfl 8 (by decide) (hts _ lk_X4_back_0_2) rfl rfl (by decide +kernel) rfl rfl (Nat.le_of_ble_eq_true rfl) (we_10_1 st ((st.1 61 1) + 1)) dX4_back_47 (fun H locs hP hS => ?_)
      obtain ⟨st4, e4⟩ : ∃ z, z = (ow_si st 61 1 ((st.1 61 1) + 1)) := ⟨_, rfl⟩
      rw [← e4] at hP
      refine lv_bipush (v := (-10)) hx hb dX4_back_50 (by decide) ?_
      refine lv_iload hx hb dX4_back_52 (lv_at hl 0 rfl) ?_
      refine lv_isub hx hb dX4_back_54 ?_
      exact W.iret (v := ((-10) - (fX4_wrong_0_9 st (0 + (4 * x2))))) hx hb hr (fun t ht hW => ⟨⟨((-10) - (fX4_wrong_0_9 st (0 + (4 * x2)))), st4, rfl, (by subst e4; simp only [fX4_back_0, if_neg c_1, if_neg c_2]), ow_Bi ht hP⟩, hS.F ht⟩) hS.2.2 dX4_back_55
  · refine lv_iconst (v := (-1)) hx hb dX4_back_10 (by decide) ?_
    exact W.iret (v := (-1)) hx hb hr (fun t ht hW => ⟨⟨(-1), st, rfl, (by simp only [fX4_back_0, if_pos c_1]), ow_Bi ht hP⟩, hS.F ht⟩) hS.2.2 dX4_back_11

theorem li_X4_part_0_X4 : ∀ w ∈ u_ws RX4 TX4 19, w ∈ wsX4_part := by decide +kernel
theorem lk_X4_part_0_1 : (.fieldLink RX4 66 "RecordLabelsModel" "latest" "I" : Cond) ∈ wsX4_part := by decide +kernel
theorem lk_X4_part_0_2 : (.fieldLink RX4 70 "RecordLabelsModel" "parts" "[I" : Cond) ∈ wsX4_part := by decide +kernel
def fX4_part_0 (st : ow_St) (x1 : Int32) : Int32 := (if (fX4_isIn st x1 0 2) = 0 then (-4) else (fX4_toldOf_0 st x1 (st.1 58 x1.toNatClampNeg)))
set_option maxHeartbeats 4000000 in
set_option maxRecDepth 100000 in
theorem kX4_part_0 (l : Launch) (D : va_G) (ca : Nat → ClassId) (ad : ow_Ad) (A : Nat → Prop) (st : ow_St) (x1 : Int32) (hp : st.1 61 2 = 0) (h50 : cellok (st.1 58 0) 5) (h52 : cellok (st.1 58 2) 26) : Met l yX4_part wsX4_part ({ frames := 2, cells := 0, slots := 0, locals := 46 }) (va_Pc [.ref (ad 10 0), .int x1] (ow_W D ca ad A st)) (va_Qi (fun r st' => r = (fX4_part_0 st x1) ∧ st' = st) (ow_B D ca ad) A) 0 0 A := by
  refine Met.ofW (cc := cX4_part) (maxL := 2) (ret := (some .int)) (by decide) rfl ?_
  intro p e s m args below meth c s₁ B hml hv
  obtain ⟨rfl, hP, hC⟩ := hv
  have hx := B.exec
  have hb := B.bytes
  have hr := B.returns
  have hts := atoms_spec (ws := wsX4_part) B.pre
  have hown : s.vm.findClass RX4 = some m.cls := findClass_of_methodNamed B.named
  have hlocks := B.notSynchronized
  have hS : va_S A s.heap s.heap [] := va_S.rf
  have hl := lv_entry ([.ref (ad 10 0), .int x1]) (n := 2) (Nat.le_of_ble_eq_true rfl)
  rw [lg_entry_eq]
  generalize (lg_sl ([.ref (ad 10 0), .int x1]) ++ List.replicate (2 - (lg_sl ([.ref (ad 10 0), .int x1])).length) Slot.unset).toArray = ls at hl ⊢
  have hl : lv_has ls 2 [(0, .ref (ad 10 0)), (1, .int x1)] := hl
  refine lv_aload_n hx hb dX4_part_0 rfl (lv_at hl 0 rfl) ?_
  refine og_get (C := RX4) (T := TX4) (N := 19) (g := 10) (i := 0) (v := .int 0) hx hb hts li_X4_part_0_X4 hown hC hP (ow_q10_0) rfl rfl 13 (by decide) (hts _ lk_X4_part_0_1) rfl (by show some (Value.int (st.1 61 2)) = _; rw [hp]) dX4_part_1 ?_
  refine lv_bipush (v := (-4)) hx hb dX4_part_4 (by decide) ?_
  refine lv_icmp_eq (tgt := 26) hx hb dX4_part_6 (by decide) (fun c => absurd c (by decide)) (fun _ => ?_)
  refine lv_iload_n hx hb dX4_part_9 rfl (lv_at hl 1 rfl) ?_
  refine lv_iconst (v := 0) hx hb dX4_part_10 (by decide) ?_
  refine lv_aload_n hx hb dX4_part_11 rfl (lv_at hl 0 rfl) ?_
  refine og_get (C := RX4) (T := TX4) (N := 19) (g := 10) (i := 0) (v := .int 0) hx hb hts li_X4_part_0_X4 hown hC hP (ow_q10_0) rfl rfl 13 (by decide) (hts _ lk_X4_part_0_1) rfl (by show some (Value.int (st.1 61 2)) = _; rw [hp]) dX4_part_12 ?_
  refine og_ciP (F := 3) (og_runS (As := [.int 0]) (rest := [.int 0, .int x1]) ⟨hx, hb, hml, hown, hts⟩ (kX4_items_0 l D ca ad A st) (va_cwS 1 hts gX4_part_X4_items rfl rfl rfl (by decide +kernel) ⟨Nat.le_of_ble_eq_true rfl, Nat.le_of_ble_eq_true rfl⟩) hC hP hS rfl hl.1 rfl (Nat.le_of_ble_eq_true rfl) dX4_part_15 ⟨Nat.zero_le _, Nat.zero_le _⟩) hS (fun H locs hP hS => ?_)
  refine lv_iconst (v := 1) hx hb dX4_part_18 (by decide) ?_
  refine lv_isub hx hb dX4_part_19 ?_
  rw [show (3 : Int32) - 1 = (2 : Int32) from rfl]
  refine og_ciP (og_runS (As := [.int x1, .int 0, .int 2]) (rest := []) ⟨hx, hb, hml, hown, hts⟩ (kX4_isIn l D ca ad A st x1 0 2) (va_cwS 3 hts gX4_part_X4_isIn rfl rfl rfl (by decide +kernel) ⟨Nat.le_of_ble_eq_true rfl, Nat.le_of_ble_eq_true rfl⟩) hC hP hS rfl hl.1 rfl (Nat.le_of_ble_eq_true rfl) dX4_part_20 ⟨Nat.zero_le _, Nat.zero_le _⟩) hS (fun H locs hP hS => ?_)
  refine lv_if_ne (tgt := 31) hx hb dX4_part_23 (by decide) (fun c_1 => ?_) (fun c_1 => ?_)
  · refine lv_aload_n hx hb dX4_part_31 rfl (lv_at hl 0 rfl) ?_
    refine lv_aload_n hx hb dX4_part_32 rfl (lv_at hl 0 rfl) ?_
    refine og_get (C := RX4) (T := TX4) (N := 19) (g := 10) (i := 0) (v := .int 0) hx hb hts li_X4_part_0_X4 hown hC hP (ow_q10_0) rfl rfl 13 (by decide) (hts _ lk_X4_part_0_1) rfl (by show some (Value.int (st.1 61 2)) = _; rw [hp]) dX4_part_33 ?_
    refine lv_iload_n hx hb dX4_part_36 rfl (lv_at hl 1 rfl) ?_
    refine lv_aload_n hx hb dX4_part_37 rfl (lv_at hl 0 rfl) ?_
    refine og_get (C := RX4) (T := TX4) (N := 19) (g := 10) (i := 0) (v := .ref (ad 11 10)) hx hb hts li_X4_part_0_X4 hown hC hP (ow_q10_0) rfl rfl 14 (by decide) (hts _ lk_X4_part_0_2) rfl rfl dX4_part_38 ?_
    refine lv_iload_n hx hb dX4_part_41 rfl (lv_at hl 1 rfl) ?_
    refine og_iald (g := 11) (i := 10) (j := x1.toNatClampNeg) (v := (st.1 58 x1.toNatClampNeg)) hx hb hC hP (ow_q11_10) rfl (d_in (itx_0 c_1)) rfl rfl dX4_part_42 ?_
    refine og_ciP (og_runV (C := RX4) (T := TX4) (N := 19) (g := 10) (i := 0) (As := [.int 0, .int x1, .int (st.1 58 x1.toNatClampNeg)]) (rest := []) ⟨hx, hb, hml, hown, hts⟩ (kX4_toldOf_0 l D ca ad A st x1 (st.1 58 x1.toNatClampNeg) (fun q => by subst q; exact ck h50) (fun q => by subst q; exact ck h52)) (cwV 3 hts gX4_part_X4_toldOf rfl rfl rfl (by decide +kernel) ⟨Nat.le_of_ble_eq_true rfl, Nat.le_of_ble_eq_true rfl⟩) hC hP hS (ow_q10_0) rfl rfl rfl hl.1 rfl (Nat.le_of_ble_eq_true rfl) dX4_part_43 ⟨Nat.zero_le _, Nat.zero_le _⟩) hS (fun H locs hP hS => ?_)
    exact W.iret (v := (fX4_toldOf_0 st x1 (st.1 58 x1.toNatClampNeg))) hx hb hr (fun t ht hW => ⟨⟨(fX4_toldOf_0 st x1 (st.1 58 x1.toNatClampNeg)), st, rfl, ⟨(by simp only [fX4_part_0, if_neg c_1]), rfl⟩, ow_Bi ht hP⟩, hS.F ht⟩) hS.2.2 dX4_part_46
  · refine lv_bipush (v := (-4)) hx hb dX4_part_26 (by decide) ?_
    refine lv_goto (tgt := 46) hx hb dX4_part_28 (by decide) ?_
    exact W.iret (v := (-4)) hx hb hr (fun t ht hW => ⟨⟨(-4), st, rfl, ⟨(by simp only [fX4_part_0, if_pos c_1]), rfl⟩, ow_Bi ht hP⟩, hS.F ht⟩) hS.2.2 dX4_part_46

theorem li_X4_filter_0_X4 : ∀ w ∈ u_ws RX4 TX4 19, w ∈ wsX4_filter := by decide +kernel
theorem lk_X4_filter_0_1 : (.fieldLink RX4 54 "RecordLabelsModel" "setKind" "[I" : Cond) ∈ wsX4_filter := by decide +kernel
theorem lk_X4_filter_0_2 : (.fieldLink RX4 168 "RecordLabelsModel" "finds" "I" : Cond) ∈ wsX4_filter := by decide +kernel
theorem lk_X4_filter_0_3 : (.fieldLink RX4 60 "RecordLabelsModel" "records" "[I" : Cond) ∈ wsX4_filter := by decide +kernel
theorem lk_X4_filter_0_4 : (.fieldLink RX4 63 "RecordLabelsModel" "cells" "[I" : Cond) ∈ wsX4_filter := by decide +kernel
theorem lk_X4_filter_0_5 : (.fieldLink RX4 57 "RecordLabelsModel" "held" "[I" : Cond) ∈ wsX4_filter := by decide +kernel
theorem lk_X4_filter_0_6 : (.fieldLink RX4 73 "RecordLabelsModel" "foundAt" "[I" : Cond) ∈ wsX4_filter := by decide +kernel
def flX4_filter_0 (x2 x3 x4 x5 : Int32) : Nat → Nat → ow_St → Int32 × ow_St
  | 0, _, sv => (0, sv)
  | n + 1, i, sv => (if (sv.1 56 0) ≤ (nI i) then ((sv.1 61 3), sv) else (if (fX4_wrong_0_9 sv (0 + (4 * (nI i)))) = (-4) then (if (((sv.1 55 x2.toNatClampNeg) >>> ((sv.1 57 ((0 + (4 * (nI i))).toNatClampNeg)) &&& 31)) &&& 1) = 1 then (if (fX4_isIn sv (fX4_toldOf_0 sv x3 (sv.1 57 (((0 + (4 * (nI i))) + x3).toNatClampNeg))) x4 x5) = 0 then (flX4_filter_0 x2 x3 x4 x5 n (i + 1)  sv) else (let st9 := (ow_si sv 59 ((sv.1 61 3).toNatClampNeg) (nI i)); (let st10 := (ow_si st9 61 3 ((st9.1 61 3) + 1)); (flX4_filter_0 x2 x3 x4 x5 n (i + 1)  st10)))) else (flX4_filter_0 x2 x3 x4 x5 n (i + 1)  sv)) else (flX4_filter_0 x2 x3 x4 x5 n (i + 1)  sv)))
def fX4_filter_0 (st : ow_St) (x2 x3 x4 x5 : Int32) : Int32 × ow_St := (if (fX4_isSet st x2) = 0 then ((-1), st) else (if (fX4_isIn st x3 1 2) = 0 then ((-1), st) else (if (st.1 54 x2.toNatClampNeg) = 0 then (let st4 := (ow_si st 61 3 0); (flX4_filter_0 x2 x3 x4 x5 (((st.1 56 0).toNatClampNeg) + 1) 0  st4)) else ((-3), st))))
set_option maxHeartbeats 4000000 in
set_option maxRecDepth 100000 in
theorem kX4_filter_0 (l : Launch) (D : va_G) (ca : Nat → ClassId) (ad : ow_Ad) (A : Nat → Prop) (st : ow_St) (x2 : Int32) (x3 : Int32) (x4 : Int32) (x5 : Int32) (hmz0 : iv_mz st 0) (hcl : iv_mcl st) : Met l yX4_filter wsX4_filter ({ frames := 2, cells := 0, slots := 0, locals := 46 }) (va_Pc [.ref (ad 10 0), .int 0, .int x2, .int x3, .int x4, .int x5] (ow_W D ca ad A st)) (va_Qi (fun r st' => (r, st') = (fX4_filter_0 st x2 x3 x4 x5)) (ow_B D ca ad) A) 0 0 A := by
  refine Met.ofW (cc := cX4_filter) (maxL := 8) (ret := (some .int)) (by decide) rfl ?_
  intro p e s m args below meth c s₁ B hml hv
  obtain ⟨rfl, hP, hC⟩ := hv
  have hx := B.exec
  have hb := B.bytes
  have hr := B.returns
  have hts := atoms_spec (ws := wsX4_filter) B.pre
  have hown : s.vm.findClass RX4 = some m.cls := findClass_of_methodNamed B.named
  have hlocks := B.notSynchronized
  have hS : va_S A s.heap s.heap [] := va_S.rf
  have hl := lv_entry ([.ref (ad 10 0), .int 0, .int x2, .int x3, .int x4, .int x5]) (n := 8) (Nat.le_of_ble_eq_true rfl)
  rw [lg_entry_eq]
  generalize (lg_sl ([.ref (ad 10 0), .int 0, .int x2, .int x3, .int x4, .int x5]) ++ List.replicate (8 - (lg_sl ([.ref (ad 10 0), .int 0, .int x2, .int x3, .int x4, .int x5])).length) Slot.unset).toArray = ls at hl ⊢
  have hl : lv_has ls 8 [(0, .ref (ad 10 0)), (1, .int 0), (2, .int x2), (3, .int x3), (4, .int x4), (5, .int x5)] := hl
  have hB30 : ((st.1 56 0).toNatClampNeg) ≤ 30 := (mz_nI hmz0).2
  refine lv_iload_n hx hb dX4_filter_0 rfl (lv_at hl 1 rfl) ?_
  refine og_ciP (og_runS (As := [.int 0]) (rest := []) ⟨hx, hb, hml, hown, hts⟩ (kX4_isTable l D ca ad A st 0) (va_cwS 1 hts gX4_filter_X4_isTable rfl rfl rfl (by decide +kernel) ⟨Nat.le_of_ble_eq_true rfl, Nat.le_of_ble_eq_true rfl⟩) hC hP hS rfl hl.1 rfl (Nat.le_of_ble_eq_true rfl) dX4_filter_1 ⟨Nat.zero_le _, Nat.zero_le _⟩) hS (fun H locs hP hS => ?_)
  refine lv_if_eq (tgt := 28) hx hb dX4_filter_4 (by decide) (fun c => absurd c isT_0) (fun _ => ?_)
  refine lv_iload_n hx hb dX4_filter_7 rfl (lv_at hl 2 rfl) ?_
  refine og_ciP (og_runS (As := [.int x2]) (rest := []) ⟨hx, hb, hml, hown, hts⟩ (kX4_isSet l D ca ad A st x2) (va_cwS 1 hts gX4_filter_X4_isSet rfl rfl rfl (by decide +kernel) ⟨Nat.le_of_ble_eq_true rfl, Nat.le_of_ble_eq_true rfl⟩) hC hP hS rfl hl.1 rfl (Nat.le_of_ble_eq_true rfl) dX4_filter_8 ⟨Nat.zero_le _, Nat.zero_le _⟩) hS (fun H locs hP hS => ?_)
  refine lv_if_eq (tgt := 28) hx hb dX4_filter_11 (by decide) (fun c_1 => ?_) (fun c_1 => ?_)
  · refine lv_iconst (v := (-1)) hx hb dX4_filter_28 (by decide) ?_
    exact W.iret (v := (-1)) hx hb hr (fun t ht hW => ⟨⟨(-1), st, rfl, (by simp only [fX4_filter_0, if_pos c_1]), ow_Bi ht hP⟩, hS.F ht⟩) hS.2.2 dX4_filter_29
  · refine lv_iload_n hx hb dX4_filter_14 rfl (lv_at hl 3 rfl) ?_
    refine lv_iconst (v := 1) hx hb dX4_filter_15 (by decide) ?_
    refine lv_iload_n hx hb dX4_filter_16 rfl (lv_at hl 1 rfl) ?_
    refine og_ciP (F := 3) (og_runS (As := [.int 0]) (rest := [.int 1, .int x3]) ⟨hx, hb, hml, hown, hts⟩ (kX4_items_0 l D ca ad A st) (va_cwS 1 hts gX4_filter_X4_items rfl rfl rfl (by decide +kernel) ⟨Nat.le_of_ble_eq_true rfl, Nat.le_of_ble_eq_true rfl⟩) hC hP hS rfl hl.1 rfl (Nat.le_of_ble_eq_true rfl) dX4_filter_17 ⟨Nat.zero_le _, Nat.zero_le _⟩) hS (fun H locs hP hS => ?_)
    refine lv_iconst (v := 1) hx hb dX4_filter_20 (by decide) ?_
    refine lv_isub hx hb dX4_filter_21 ?_
    rw [show (3 : Int32) - 1 = (2 : Int32) from rfl]
    refine og_ciP (og_runS (As := [.int x3, .int 1, .int 2]) (rest := []) ⟨hx, hb, hml, hown, hts⟩ (kX4_isIn l D ca ad A st x3 1 2) (va_cwS 3 hts gX4_filter_X4_isIn rfl rfl rfl (by decide +kernel) ⟨Nat.le_of_ble_eq_true rfl, Nat.le_of_ble_eq_true rfl⟩) hC hP hS rfl hl.1 rfl (Nat.le_of_ble_eq_true rfl) dX4_filter_22 ⟨Nat.zero_le _, Nat.zero_le _⟩) hS (fun H locs hP hS => ?_)
    refine lv_if_ne (tgt := 30) hx hb dX4_filter_25 (by decide) (fun c_2 => ?_) (fun c_2 => ?_)
    · refine lv_aload_n hx hb dX4_filter_30 rfl (lv_at hl 0 rfl) ?_
      refine og_get (C := RX4) (T := TX4) (N := 19) (g := 10) (i := 0) (v := .ref (ad 11 6)) hx hb hts li_X4_filter_0_X4 hown hC hP (ow_q10_0) rfl rfl 9 (by decide) (hts _ lk_X4_filter_0_1) rfl rfl dX4_filter_31 ?_
      refine lv_iload_n hx hb dX4_filter_34 rfl (lv_at hl 2 rfl) ?_
      refine og_iald (g := 11) (i := 6) (j := x2.toNatClampNeg) (v := (st.1 54 x2.toNatClampNeg)) hx hb hC hP (ow_q11_6) rfl (isS_in c_1) rfl rfl dX4_filter_35 ?_
      refine lv_iload_n hx hb dX4_filter_36 rfl (lv_at hl 1 rfl) ?_
      refine lv_icmp_eq (tgt := 43) hx hb dX4_filter_37 (by decide) (fun c_3 => ?_) (fun c_3 => ?_)
      · refine lv_aload_n hx hb dX4_filter_43 rfl (lv_at hl 0 rfl) ?_
        refine lv_iconst (v := 0) hx hb dX4_filter_44 (by decide) ?_
        refine og_put (C := RX4) (T := TX4) (N := 19) (g := 10) (i := 0) (v := .int 0) (ty := .int) hx hb hts li_X4_filter_0_X4 tyX4 tyX4_ok nmX4 hown hC hP hS (ow_q10_0) rfl rfl 15 (by decide) (hts _ lk_X4_filter_0_2) rfl rfl (by decide +kernel) rfl rfl (Nat.le_of_ble_eq_true rfl) (we_10_3 st 0) dX4_filter_45 (fun H locs hP hS => ?_)
        obtain ⟨st4, e4⟩ : ∃ z, z = (ow_si st 61 3 0) := ⟨_, rfl⟩
        rw [← e4] at hP
        refine lv_iconst (v := 0) hx hb dX4_filter_48 (by decide) ?_
        refine lv_istore (lv' := [(6, .int 0), (0, .ref (ad 10 0)), (1, .int 0), (2, .int x2), (3, .int x3), (4, .int x4), (5, .int x5)]) hx hb dX4_filter_49 hl (by decide) rfl (fun ls hl => ?_)
        have loop : ∀ (n i : Nat) (sv : ow_St) (H : Heap) (locs : List Loc) (ls : Array Slot), i ≤ ((st.1 56 0).toNatClampNeg) → ((st.1 56 0).toNatClampNeg) < i + n → (sv.1 56 0 = nI ((st.1 56 0).toNatClampNeg)) → (sv.1 57 = st.1 57) → (∃ m, m ≤ i ∧ sv.1 61 3 = nI m) → flX4_filter_0 x2 x3 x4 x5 n i sv = (fX4_filter_0 st x2 x3 x4 x5) → va_P D vwCl (ow_ws ad (ow_c ca ad sv)) H → va_S A s.heap H locs → lv_has ls 8 [(6, .int (nI i)), (0, .ref (ad 10 0)), (1, .int 0), (2, .int x2), (3, .int x3), (4, .int x4), (5, .int x5)] → W p l e (headSpec wsX4_filter ({ frames := 2, cells := 0, slots := 0, locals := 46 } : Room)).room s m ([.ref (ad 10 0), .int 0, .int x2, .int x3, .int x4, .int x5] : List Value).toArray below meth c H locs 0 0 (MQ below (va_Qi (fun r st' => (r, st') = (fX4_filter_0 st x2 x3 x4 x5)) (ow_B D ca ad) A) ([.ref (ad 10 0), .int 0, .int x2, .int x3, .int x4, .int x5] : List Value).toArray s 0 0 A) (F0 m 51 ls []) := by
          intro n
          induction n with
          | zero => intro i sv H locs ls h1 h2; exact absurd h2 (by omega)
          | succ n ih =>
            intro i sv H locs ls hle hlt hB hV hM heq hP hS hl
            refine lv_iload hx hb dX4_filter_51 (lv_at hl 0 rfl) ?_
            refine lv_aload_n hx hb dX4_filter_53 rfl (lv_at hl 1 rfl) ?_
            refine og_get (C := RX4) (T := TX4) (N := 19) (g := 10) (i := 0) (v := .ref (ad 11 8)) hx hb hts li_X4_filter_0_X4 hown hC hP (ow_q10_0) rfl rfl 11 (by decide) (hts _ lk_X4_filter_0_3) rfl rfl dX4_filter_54 ?_
            refine lv_iload_n hx hb dX4_filter_57 rfl (lv_at hl 2 rfl) ?_
            refine og_iald (g := 11) (i := 8) (j := 0) (v := (sv.1 56 0)) hx hb hC hP (ow_q11_8) rfl (by unfold vp_in; decide) rfl rfl dX4_filter_58 ?_
            refine lv_icmp_ge (tgt := 161) hx hb dX4_filter_59 (by decide) (fun c_5 => ?_) (fun c_5 => ?_)
            · refine lv_aload_n hx hb dX4_filter_161 rfl (lv_at hl 1 rfl) ?_
              refine og_get (C := RX4) (T := TX4) (N := 19) (g := 10) (i := 0) (v := .int (sv.1 61 3)) hx hb hts li_X4_filter_0_X4 hown hC hP (ow_q10_0) rfl rfl 15 (by decide) (hts _ lk_X4_filter_0_2) rfl rfl dX4_filter_162 ?_
              exact W.iret (v := (sv.1 61 3)) hx hb hr (fun t ht hW => ⟨⟨(sv.1 61 3), sv, rfl, (by rw [← heq]; simp only [flX4_filter_0, if_pos c_5]), ow_Bi ht hP⟩, hS.F ht⟩) hS.2.2 dX4_filter_165
            · refine lv_bipush (v := 120) hx hb dX4_filter_62 (by decide) ?_
              refine lv_iload_n hx hb dX4_filter_64 rfl (lv_at hl 2 rfl) ?_
              refine lv_imul hx hb dX4_filter_65 ?_
              rw [show (120 : Int32) * 0 = (0 : Int32) from rfl]
              refine lv_iconst (v := 4) hx hb dX4_filter_66 (by decide) ?_
              refine lv_iload hx hb dX4_filter_67 (lv_at hl 0 rfl) ?_
              refine lv_imul hx hb dX4_filter_69 ?_
              refine lv_iadd hx hb dX4_filter_70 ?_
              refine lv_istore (lv' := [(7, .int (0 + (4 * (nI i)))), (6, .int (nI i)), (0, .ref (ad 10 0)), (1, .int 0), (2, .int x2), (3, .int x3), (4, .int x4), (5, .int x5)]) hx hb dX4_filter_71 hl (by decide) rfl (fun ls hl => ?_)
              refine lv_aload_n hx hb dX4_filter_73 rfl (lv_at hl 2 rfl) ?_
              refine lv_iload_n hx hb dX4_filter_74 rfl (lv_at hl 3 rfl) ?_
              refine lv_aload_n hx hb dX4_filter_75 rfl (lv_at hl 2 rfl) ?_
              refine og_get (C := RX4) (T := TX4) (N := 19) (g := 10) (i := 0) (v := .ref (ad 11 9)) hx hb hts li_X4_filter_0_X4 hown hC hP (ow_q10_0) rfl rfl 12 (by decide) (hts _ lk_X4_filter_0_4) rfl rfl dX4_filter_76 ?_
              refine lv_iload hx hb dX4_filter_79 (lv_at hl 0 rfl) ?_
              refine og_ciP (og_runV (C := RX4) (T := TX4) (N := 19) (g := 10) (i := 0) (As := [.int 0, .ref (ad 11 9), .int (0 + (4 * (nI i)))]) (rest := []) ⟨hx, hb, hml, hown, hts⟩ (kX4_wrong_0_9 l D ca ad A sv (0 + (4 * (nI i))) (at_0 ⟨i, Nat.lt_of_lt_of_le (ow_lt (by rw [← hB]; exact c_5) hle (by omega)) hB30, rfl⟩)) (cwV 3 hts gX4_filter_X4_wrong rfl rfl rfl (by decide +kernel) ⟨Nat.le_of_ble_eq_true rfl, Nat.le_of_ble_eq_true rfl⟩) hC hP hS (ow_q10_0) rfl rfl rfl hl.1 rfl (Nat.le_of_ble_eq_true rfl) dX4_filter_81 ⟨Nat.zero_le _, Nat.zero_le _⟩) hS (fun H locs hP hS => ?_)
              refine lv_bipush (v := (-4)) hx hb dX4_filter_84 (by decide) ?_
              refine lv_icmp_ne (tgt := 155) hx hb dX4_filter_86 (by decide) (fun c_6 => ?_) (fun c_6 => ?_)
              · refine lv_iinc (v := (nI (i + 1))) (lv' := [(6, .int (nI (i + 1))), (7, .int (0 + (4 * (nI i)))), (0, .ref (ad 10 0)), (1, .int 0), (2, .int x2), (3, .int x3), (4, .int x4), (5, .int x5)]) hx hb dX4_filter_155 hl (k := 1) rfl (nI_1 _) (by decide) rfl (fun ls hl => ?_)
                refine lv_goto (tgt := 51) hx hb dX4_filter_158 (by decide) ?_
                exact ih (i + 1)  sv _ _ _ (ow_lt (by rw [← hB]; exact c_5) hle (by omega)) (by omega) (by exact hB) (by exact hV) (by obtain ⟨m, hm, em⟩ := hM; exact ⟨m, by omega, em⟩) (by rw [← heq]; simp only [flX4_filter_0, if_neg c_5, if_neg c_6]) hP hS (lv_sub hl [0, 2, 3, 4, 5, 6, 7] rfl)
              · refine lv_aload_n hx hb dX4_filter_89 rfl (lv_at hl 2 rfl) ?_
                refine og_get (C := RX4) (T := TX4) (N := 19) (g := 10) (i := 0) (v := .ref (ad 11 7)) hx hb hts li_X4_filter_0_X4 hown hC hP (ow_q10_0) rfl rfl 10 (by decide) (hts _ lk_X4_filter_0_5) rfl rfl dX4_filter_90 ?_
                refine lv_iload_n hx hb dX4_filter_93 rfl (lv_at hl 4 rfl) ?_
                refine og_iald (g := 11) (i := 7) (j := x2.toNatClampNeg) (v := (sv.1 55 x2.toNatClampNeg)) hx hb hC hP (ow_q11_7) rfl (isS_in c_1) rfl rfl dX4_filter_94 ?_
                refine lv_aload_n hx hb dX4_filter_95 rfl (lv_at hl 2 rfl) ?_
                refine og_get (C := RX4) (T := TX4) (N := 19) (g := 10) (i := 0) (v := .ref (ad 11 9)) hx hb hts li_X4_filter_0_X4 hown hC hP (ow_q10_0) rfl rfl 12 (by decide) (hts _ lk_X4_filter_0_4) rfl rfl dX4_filter_96 ?_
                refine lv_iload hx hb dX4_filter_99 (lv_at hl 0 rfl) ?_
                refine og_iald (g := 11) (i := 9) (j := ((0 + (4 * (nI i))).toNatClampNeg)) (v := (sv.1 57 ((0 + (4 * (nI i))).toNatClampNeg))) hx hb hC hP (ow_q11_9) rfl (at_in0 (at_0 ⟨i, Nat.lt_of_lt_of_le (ow_lt (by rw [← hB]; exact c_5) hle (by omega)) hB30, rfl⟩)) rfl rfl dX4_filter_101 ?_
                refine lv_ishr hx hb dX4_filter_102 ?_
                refine lv_iconst (v := 1) hx hb dX4_filter_103 (by decide) ?_
                refine lv_iand hx hb dX4_filter_104 ?_
                refine lv_iconst (v := 1) hx hb dX4_filter_105 (by decide) ?_
                refine lv_icmp_ne (tgt := 155) hx hb dX4_filter_106 (by decide) (fun c_7 => ?_) (fun c_7 => ?_)
                · refine lv_iinc (v := (nI (i + 1))) (lv' := [(6, .int (nI (i + 1))), (7, .int (0 + (4 * (nI i)))), (0, .ref (ad 10 0)), (1, .int 0), (2, .int x2), (3, .int x3), (4, .int x4), (5, .int x5)]) hx hb dX4_filter_155 hl (k := 1) rfl (nI_1 _) (by decide) rfl (fun ls hl => ?_)
                  refine lv_goto (tgt := 51) hx hb dX4_filter_158 (by decide) ?_
                  exact ih (i + 1)  sv _ _ _ (ow_lt (by rw [← hB]; exact c_5) hle (by omega)) (by omega) (by exact hB) (by exact hV) (by obtain ⟨m, hm, em⟩ := hM; exact ⟨m, by omega, em⟩) (by rw [← heq]; simp only [flX4_filter_0, if_neg c_5, if_pos c_6, if_neg c_7]) hP hS (lv_sub hl [0, 2, 3, 4, 5, 6, 7] rfl)
                · refine lv_aload_n hx hb dX4_filter_109 rfl (lv_at hl 2 rfl) ?_
                  refine lv_iload_n hx hb dX4_filter_110 rfl (lv_at hl 3 rfl) ?_
                  refine lv_iload_n hx hb dX4_filter_111 rfl (lv_at hl 5 rfl) ?_
                  refine lv_aload_n hx hb dX4_filter_112 rfl (lv_at hl 2 rfl) ?_
                  refine og_get (C := RX4) (T := TX4) (N := 19) (g := 10) (i := 0) (v := .ref (ad 11 9)) hx hb hts li_X4_filter_0_X4 hown hC hP (ow_q10_0) rfl rfl 12 (by decide) (hts _ lk_X4_filter_0_4) rfl rfl dX4_filter_113 ?_
                  refine lv_iload hx hb dX4_filter_116 (lv_at hl 0 rfl) ?_
                  refine lv_iload_n hx hb dX4_filter_118 rfl (lv_at hl 5 rfl) ?_
                  refine lv_iadd hx hb dX4_filter_119 ?_
                  refine og_iald (g := 11) (i := 9) (j := (((0 + (4 * (nI i))) + x3).toNatClampNeg)) (v := (sv.1 57 (((0 + (4 * (nI i))) + x3).toNatClampNeg))) hx hb hC hP (ow_q11_9) rfl (at_inx (at_0 ⟨i, Nat.lt_of_lt_of_le (ow_lt (by rw [← hB]; exact c_5) hle (by omega)) hB30, rfl⟩) (itz (n := 2) rfl (by decide) c_2).1) rfl rfl dX4_filter_120 ?_
                  refine og_ciP (og_runV (C := RX4) (T := TX4) (N := 19) (g := 10) (i := 0) (As := [.int 0, .int x3, .int (sv.1 57 (((0 + (4 * (nI i))) + x3).toNatClampNeg))]) (rest := []) ⟨hx, hb, hml, hown, hts⟩ (kX4_toldOf_0 l D ca ad A sv x3 (sv.1 57 (((0 + (4 * (nI i))) + x3).toNatClampNeg)) (fun q => absurd q (itz (n := 2) rfl (by decide) c_2).2) (by rw [hV]; exact cl_02 hcl ⟨i, Nat.lt_of_lt_of_le (ow_lt (by rw [← hB]; exact c_5) hle (by omega)) hB30, rfl⟩)) (cwV 3 hts gX4_filter_X4_toldOf rfl rfl rfl (by decide +kernel) ⟨Nat.le_of_ble_eq_true rfl, Nat.le_of_ble_eq_true rfl⟩) hC hP hS (ow_q10_0) rfl rfl rfl hl.1 rfl (Nat.le_of_ble_eq_true rfl) dX4_filter_121 ⟨Nat.zero_le _, Nat.zero_le _⟩) hS (fun H locs hP hS => ?_)
                  refine lv_iload hx hb dX4_filter_124 (lv_at hl 6 rfl) ?_
                  refine lv_iload hx hb dX4_filter_126 (lv_at hl 7 rfl) ?_
                  refine og_ciP (og_runS (As := [.int (fX4_toldOf_0 sv x3 (sv.1 57 (((0 + (4 * (nI i))) + x3).toNatClampNeg))), .int x4, .int x5]) (rest := []) ⟨hx, hb, hml, hown, hts⟩ (kX4_isIn l D ca ad A sv (fX4_toldOf_0 sv x3 (sv.1 57 (((0 + (4 * (nI i))) + x3).toNatClampNeg))) x4 x5) (va_cwS 3 hts gX4_filter_X4_isIn rfl rfl rfl (by decide +kernel) ⟨Nat.le_of_ble_eq_true rfl, Nat.le_of_ble_eq_true rfl⟩) hC hP hS rfl hl.1 rfl (Nat.le_of_ble_eq_true rfl) dX4_filter_128 ⟨Nat.zero_le _, Nat.zero_le _⟩) hS (fun H locs hP hS => ?_)
                  refine lv_if_eq (tgt := 155) hx hb dX4_filter_131 (by decide) (fun c_8 => ?_) (fun c_8 => ?_)
                  · refine lv_iinc (v := (nI (i + 1))) (lv' := [(6, .int (nI (i + 1))), (7, .int (0 + (4 * (nI i)))), (0, .ref (ad 10 0)), (1, .int 0), (2, .int x2), (3, .int x3), (4, .int x4), (5, .int x5)]) hx hb dX4_filter_155 hl (k := 1) rfl (nI_1 _) (by decide) rfl (fun ls hl => ?_)
                    refine lv_goto (tgt := 51) hx hb dX4_filter_158 (by decide) ?_
                    exact ih (i + 1)  sv _ _ _ (ow_lt (by rw [← hB]; exact c_5) hle (by omega)) (by omega) (by exact hB) (by exact hV) (by obtain ⟨m, hm, em⟩ := hM; exact ⟨m, by omega, em⟩) (by rw [← heq]; simp only [flX4_filter_0, if_neg c_5, if_pos c_6, if_pos c_7, if_pos c_8]) hP hS (lv_sub hl [0, 2, 3, 4, 5, 6, 7] rfl)
                  · refine lv_aload_n hx hb dX4_filter_134 rfl (lv_at hl 2 rfl) ?_
                    refine og_get (C := RX4) (T := TX4) (N := 19) (g := 10) (i := 0) (v := .ref (ad 11 11)) hx hb hts li_X4_filter_0_X4 hown hC hP (ow_q10_0) rfl rfl 16 (by decide) (hts _ lk_X4_filter_0_6) rfl rfl dX4_filter_135 ?_
                    refine lv_aload_n hx hb dX4_filter_138 rfl (lv_at hl 2 rfl) ?_
                    refine og_get (C := RX4) (T := TX4) (N := 19) (g := 10) (i := 0) (v := .int (sv.1 61 3)) hx hb hts li_X4_filter_0_X4 hown hC hP (ow_q10_0) rfl rfl 15 (by decide) (hts _ lk_X4_filter_0_2) rfl rfl dX4_filter_139 ?_
                    refine lv_iload hx hb dX4_filter_142 (lv_at hl 1 rfl) ?_
                    refine og_iast (g := 11) (i := 11) (j := ((sv.1 61 3).toNatClampNeg)) (v := (nI i)) hx hb hC hP hS (ow_q11_11) rfl (by have h9 := (ow_lt (by rw [← hB]; exact c_5) hle (by omega)); obtain ⟨m, hm, em⟩ := hM; rw [em]; exact vp_in_nI (by omega) (by decide)) rfl (we_11_11 sv ((sv.1 61 3).toNatClampNeg) (nI i)) dX4_filter_144 (fun H locs hP hS => ?_)
                    obtain ⟨st9, e9⟩ : ∃ z, z = (ow_si sv 59 ((sv.1 61 3).toNatClampNeg) (nI i)) := ⟨_, rfl⟩
                    rw [← e9] at hP
                    refine lv_aload_n hx hb dX4_filter_145 rfl (lv_at hl 2 rfl) ?_
                    refine lv_dup hx hb dX4_filter_146 rfl ?_
                    refine og_get (C := RX4) (T := TX4) (N := 19) (g := 10) (i := 0) (v := .int (st9.1 61 3)) hx hb hts li_X4_filter_0_X4 hown hC hP (ow_q10_0) rfl rfl 15 (by decide) (hts _ lk_X4_filter_0_2) rfl rfl dX4_filter_147 ?_
                    refine lv_iconst (v := 1) hx hb dX4_filter_150 (by decide) ?_
                    refine lv_iadd hx hb dX4_filter_151 ?_
                    refine og_put (C := RX4) (T := TX4) (N := 19) (g := 10) (i := 0) (v := .int ((st9.1 61 3) + 1)) (ty := .int) hx hb hts li_X4_filter_0_X4 tyX4 tyX4_ok nmX4 hown hC hP hS (ow_q10_0) rfl rfl 15 (by decide) (hts _ lk_X4_filter_0_2) rfl rfl (by decide +kernel) rfl rfl (Nat.le_of_ble_eq_true rfl) (we_10_3 st9 ((st9.1 61 3) + 1)) dX4_filter_152 (fun H locs hP hS => ?_)
                    obtain ⟨st10, e10⟩ : ∃ z, z = (ow_si st9 61 3 ((st9.1 61 3) + 1)) := ⟨_, rfl⟩
                    rw [← e10] at hP
                    refine lv_iinc (v := (nI (i + 1))) (lv' := [(6, .int (nI (i + 1))), (7, .int (0 + (4 * (nI i)))), (0, .ref (ad 10 0)), (1, .int 0), (2, .int x2), (3, .int x3), (4, .int x4), (5, .int x5)]) hx hb dX4_filter_155 hl (k := 1) rfl (nI_1 _) (by decide) rfl (fun ls hl => ?_)
                    refine lv_goto (tgt := 51) hx hb dX4_filter_158 (by decide) ?_
                    exact ih (i + 1)  st10 _ _ _ (ow_lt (by rw [← hB]; exact c_5) hle (by omega)) (by omega) (by subst e10; subst e9; simp (disch := decide) only [ow_si_ne]; exact hB) (by subst e10; subst e9; simp (disch := decide) only [ow_si_ne]; exact hV) (by subst e10; subst e9; obtain ⟨m, hm, em⟩ := hM; exact ⟨m + 1, by omega, by simp (disch := decide) only [ow_si_e, ow_si_ne, em, nI_1]⟩) (by subst e10; subst e9; rw [← heq]; simp only [flX4_filter_0, if_neg c_5, if_pos c_6, if_pos c_7, if_neg c_8]) hP hS (lv_sub hl [0, 2, 3, 4, 5, 6, 7] rfl)
        exact loop (((st.1 56 0).toNatClampNeg) + 1) 0  st4 _ _ _ (Nat.zero_le _) (by omega) (by subst e4; rw [ow_si_ne (by decide)]; exact (mz_nI hmz0).1) (by subst e4; exact ow_si_ne (by decide)) ⟨0, Nat.le_refl 0, by subst e4; exact ow_si_e _ _ _ _⟩ (by subst e4; simp only [fX4_filter_0, if_neg c_1, if_neg c_2, if_pos c_3]) hP hS (lv_sub hl [0, 1, 2, 3, 4, 5, 6] rfl)
      · refine lv_bipush (v := (-3)) hx hb dX4_filter_40 (by decide) ?_
        exact W.iret (v := (-3)) hx hb hr (fun t ht hW => ⟨⟨(-3), st, rfl, (by simp only [fX4_filter_0, if_neg c_1, if_neg c_2, if_neg c_3]), ow_Bi ht hP⟩, hS.F ht⟩) hS.2.2 dX4_filter_42
    · refine lv_iconst (v := (-1)) hx hb dX4_filter_28 (by decide) ?_
      exact W.iret (v := (-1)) hx hb hr (fun t ht hW => ⟨⟨(-1), st, rfl, (by simp only [fX4_filter_0, if_neg c_1, if_pos c_2]), ow_Bi ht hP⟩, hS.F ht⟩) hS.2.2 dX4_filter_29

theorem li_X4_sum_0_X4 : ∀ w ∈ u_ws RX4 TX4 19, w ∈ wsX4_sum := by decide +kernel
theorem lk_X4_sum_0_1 : (.fieldLink RX4 60 "RecordLabelsModel" "records" "[I" : Cond) ∈ wsX4_sum := by decide +kernel
theorem lk_X4_sum_0_2 : (.fieldLink RX4 63 "RecordLabelsModel" "cells" "[I" : Cond) ∈ wsX4_sum := by decide +kernel
theorem lk_X4_sum_0_3 : (.fieldLink RX4 101 "RecordLabelsModel" "came" "J" : Cond) ∈ wsX4_sum := by decide +kernel
def flX4_sum_0  : Nat → Nat → Int64 → ow_St → Int64 × ow_St
  | 0, _, _, sv => (0, sv)
  | n + 1, i, w2, sv => (if (sv.1 56 0) ≤ (nI i) then (w2, sv) else (if (fX4_wrong_0_9 sv (0 + (4 * (nI i)))) = (-4) then (let st3 := (fX4_begin sv 0).2; (if (fX4_begin sv 0).1 = 0 then (let st5 := (fX4_works st3 0 (st3.1 57 ((0 + (4 * (nI i))).toNatClampNeg)) ((st3.1 57 (((0 + (4 * (nI i))) + 1).toNatClampNeg)).toInt64)).2; (if (fX4_works st3 0 (st3.1 57 ((0 + (4 * (nI i))).toNatClampNeg)) ((st3.1 57 (((0 + (4 * (nI i))) + 1).toNatClampNeg)).toInt64)).1 = 1 then (flX4_sum_0  n (i + 1) (w2 + (st5.2.1 2)) st5) else (flX4_sum_0  n (i + 1) (w2 + 0) st5))) else ((((fX4_begin sv 0).1).toInt64), st3))) else (flX4_sum_0  n (i + 1) w2 sv)))
def fX4_sum_0 (st : ow_St) : Int64 × ow_St := (flX4_sum_0  (((st.1 56 0).toNatClampNeg) + 1) 0 (0 : Int64) st)
set_option maxHeartbeats 4000000 in
set_option maxRecDepth 100000 in
theorem kX4_sum_0 (l : Launch) (D : va_G) (ca : Nat → ClassId) (ad : ow_Ad) (A : Nat → Prop) (st : ow_St)  (hmz0 : iv_mz st 0) : Met l yX4_sum wsX4_sum ({ frames := 2, cells := 0, slots := 0, locals := 46 }) (va_Pc [.ref (ad 10 0), .int 0] (ow_W D ca ad A st)) (va_Ql (fun r st' => (r, st') = (fX4_sum_0 st)) (ow_B D ca ad) A) 0 0 A := by
  refine Met.ofW (cc := cX4_sum) (maxL := 7) (ret := (some .long)) (by decide) rfl ?_
  intro p e s m args below meth c s₁ B hml hv
  obtain ⟨rfl, hP, hC⟩ := hv
  have hx := B.exec
  have hb := B.bytes
  have hr := B.returns
  have hts := atoms_spec (ws := wsX4_sum) B.pre
  have hown : s.vm.findClass RX4 = some m.cls := findClass_of_methodNamed B.named
  have hlocks := B.notSynchronized
  have hS : va_S A s.heap s.heap [] := va_S.rf
  have hl := lv_entry ([.ref (ad 10 0), .int 0]) (n := 7) (Nat.le_of_ble_eq_true rfl)
  rw [lg_entry_eq]
  generalize (lg_sl ([.ref (ad 10 0), .int 0]) ++ List.replicate (7 - (lg_sl ([.ref (ad 10 0), .int 0])).length) Slot.unset).toArray = ls at hl ⊢
  have hl : lv_has ls 7 [(0, .ref (ad 10 0)), (1, .int 0)] := hl
  have hB30 : ((st.1 56 0).toNatClampNeg) ≤ 30 := (mz_nI hmz0).2
  refine lv_iload_n hx hb dX4_sum_0 rfl (lv_at hl 1 rfl) ?_
  refine og_ciP (og_runS (As := [.int 0]) (rest := []) ⟨hx, hb, hml, hown, hts⟩ (kX4_isTable l D ca ad A st 0) (va_cwS 1 hts gX4_sum_X4_isTable rfl rfl rfl (by decide +kernel) ⟨Nat.le_of_ble_eq_true rfl, Nat.le_of_ble_eq_true rfl⟩) hC hP hS rfl hl.1 rfl (Nat.le_of_ble_eq_true rfl) dX4_sum_1 ⟨Nat.zero_le _, Nat.zero_le _⟩) hS (fun H locs hP hS => ?_)
  refine lv_if_ne (tgt := 11) hx hb dX4_sum_4 (by decide) (fun _ => ?_) (fun c => absurd c isT_0)
  refine lv_lconst (v := 0) hx hb dX4_sum_11 rfl ?_
  refine lv_lstore_n (lv' := [(2, .long 0), (0, .ref (ad 10 0)), (1, .int 0)]) hx hb dX4_sum_12 rfl hl (by decide) rfl (fun ls hl => ?_)
  refine lv_iconst (v := 0) hx hb dX4_sum_13 (by decide) ?_
  refine lv_istore (lv' := [(4, .int 0), (2, .long 0), (0, .ref (ad 10 0)), (1, .int 0)]) hx hb dX4_sum_14 hl (by decide) rfl (fun ls hl => ?_)
  have loop : ∀ (n i : Nat) (w2 : Int64) (sv : ow_St) (H : Heap) (locs : List Loc) (ls : Array Slot), i ≤ ((st.1 56 0).toNatClampNeg) → ((st.1 56 0).toNatClampNeg) < i + n → (sv.1 56 0 = nI ((st.1 56 0).toNatClampNeg)) → flX4_sum_0  n i w2 sv = (fX4_sum_0 st) → va_P D vwCl (ow_ws ad (ow_c ca ad sv)) H → va_S A s.heap H locs → lv_has ls 7 [(4, .int (nI i)), (2, .long w2), (0, .ref (ad 10 0)), (1, .int 0)] → W p l e (headSpec wsX4_sum ({ frames := 2, cells := 0, slots := 0, locals := 46 } : Room)).room s m ([.ref (ad 10 0), .int 0] : List Value).toArray below meth c H locs 0 0 (MQ below (va_Ql (fun r st' => (r, st') = (fX4_sum_0 st)) (ow_B D ca ad) A) ([.ref (ad 10 0), .int 0] : List Value).toArray s 0 0 A) (F0 m 16 ls []) := by
    intro n
    induction n with
    | zero => intro i w2 sv H locs ls h1 h2; exact absurd h2 (by omega)
    | succ n ih =>
      intro i w2 sv H locs ls hle hlt hB heq hP hS hl
      refine lv_iload hx hb dX4_sum_16 (lv_at hl 0 rfl) ?_
      refine lv_aload_n hx hb dX4_sum_18 rfl (lv_at hl 2 rfl) ?_
      refine og_get (C := RX4) (T := TX4) (N := 19) (g := 10) (i := 0) (v := .ref (ad 11 8)) hx hb hts li_X4_sum_0_X4 hown hC hP (ow_q10_0) rfl rfl 11 (by decide) (hts _ lk_X4_sum_0_1) rfl rfl dX4_sum_19 ?_
      refine lv_iload_n hx hb dX4_sum_22 rfl (lv_at hl 3 rfl) ?_
      refine og_iald (g := 11) (i := 8) (j := 0) (v := (sv.1 56 0)) hx hb hC hP (ow_q11_8) rfl (by unfold vp_in; decide) rfl rfl dX4_sum_23 ?_
      refine lv_icmp_ge (tgt := 121) hx hb dX4_sum_24 (by decide) (fun c_1 => ?_) (fun c_1 => ?_)
      · refine lv_lload_n hx hb dX4_sum_121 rfl (lv_at hl 1 rfl) ?_
        exact W.lret (v := w2) hx hb hr (fun t ht hW => ⟨⟨w2, sv, rfl, (by rw [← heq]; simp only [flX4_sum_0, if_pos c_1]), ow_Bi ht hP⟩, hS.F ht⟩) hS.2.2 dX4_sum_122
      · refine lv_bipush (v := 120) hx hb dX4_sum_27 (by decide) ?_
        refine lv_iload_n hx hb dX4_sum_29 rfl (lv_at hl 3 rfl) ?_
        refine lv_imul hx hb dX4_sum_30 ?_
        rw [show (120 : Int32) * 0 = (0 : Int32) from rfl]
        refine lv_iconst (v := 4) hx hb dX4_sum_31 (by decide) ?_
        refine lv_iload hx hb dX4_sum_32 (lv_at hl 0 rfl) ?_
        refine lv_imul hx hb dX4_sum_34 ?_
        refine lv_iadd hx hb dX4_sum_35 ?_
        refine lv_istore (lv' := [(5, .int (0 + (4 * (nI i)))), (4, .int (nI i)), (2, .long w2), (0, .ref (ad 10 0)), (1, .int 0)]) hx hb dX4_sum_36 hl (by decide) rfl (fun ls hl => ?_)
        refine lv_aload_n hx hb dX4_sum_38 rfl (lv_at hl 3 rfl) ?_
        refine lv_iload_n hx hb dX4_sum_39 rfl (lv_at hl 4 rfl) ?_
        refine lv_aload_n hx hb dX4_sum_40 rfl (lv_at hl 3 rfl) ?_
        refine og_get (C := RX4) (T := TX4) (N := 19) (g := 10) (i := 0) (v := .ref (ad 11 9)) hx hb hts li_X4_sum_0_X4 hown hC hP (ow_q10_0) rfl rfl 12 (by decide) (hts _ lk_X4_sum_0_2) rfl rfl dX4_sum_41 ?_
        refine lv_iload hx hb dX4_sum_44 (lv_at hl 0 rfl) ?_
        refine og_ciP (og_runV (C := RX4) (T := TX4) (N := 19) (g := 10) (i := 0) (As := [.int 0, .ref (ad 11 9), .int (0 + (4 * (nI i)))]) (rest := []) ⟨hx, hb, hml, hown, hts⟩ (kX4_wrong_0_9 l D ca ad A sv (0 + (4 * (nI i))) (at_0 ⟨i, Nat.lt_of_lt_of_le (ow_lt (by rw [← hB]; exact c_1) hle (by omega)) hB30, rfl⟩)) (cwV 3 hts gX4_sum_X4_wrong rfl rfl rfl (by decide +kernel) ⟨Nat.le_of_ble_eq_true rfl, Nat.le_of_ble_eq_true rfl⟩) hC hP hS (ow_q10_0) rfl rfl rfl hl.1 rfl (Nat.le_of_ble_eq_true rfl) dX4_sum_46 ⟨Nat.zero_le _, Nat.zero_le _⟩) hS (fun H locs hP hS => ?_)
        refine lv_bipush (v := (-4)) hx hb dX4_sum_49 (by decide) ?_
        refine lv_icmp_ne (tgt := 115) hx hb dX4_sum_51 (by decide) (fun c_2 => ?_) (fun c_2 => ?_)
        · refine lv_iinc (v := (nI (i + 1))) (lv' := [(4, .int (nI (i + 1))), (5, .int (0 + (4 * (nI i)))), (2, .long w2), (0, .ref (ad 10 0)), (1, .int 0)]) hx hb dX4_sum_115 hl (k := 1) rfl (nI_1 _) (by decide) rfl (fun ls hl => ?_)
          refine lv_goto (tgt := 16) hx hb dX4_sum_118 (by decide) ?_
          exact ih (i + 1) w2 sv _ _ _ (ow_lt (by rw [← hB]; exact c_1) hle (by omega)) (by omega) (by exact hB) (by rw [← heq]; simp only [flX4_sum_0, if_neg c_1, if_neg c_2]) hP hS (lv_sub hl [0, 2, 3, 4] rfl)
        · refine lv_aload_n hx hb dX4_sum_54 rfl (lv_at hl 3 rfl) ?_
          refine lv_iload_n hx hb dX4_sum_55 rfl (lv_at hl 4 rfl) ?_
          refine og_ciW (og_runV (C := RX4) (T := TX4) (N := 19) (g := 10) (i := 0) (As := [.int 0]) (rest := []) ⟨hx, hb, hml, hown, hts⟩ (kX4_begin l D ca ad A sv 0 (by unfold vp_in; decide)) (cwV 1 hts gX4_sum_X4_begin rfl rfl rfl (by decide +kernel) ⟨Nat.le_of_ble_eq_true rfl, Nat.le_of_ble_eq_true rfl⟩) hC hP hS (ow_q10_0) rfl rfl rfl hl.1 rfl (Nat.le_of_ble_eq_true rfl) dX4_sum_56 ⟨Nat.zero_le _, Nat.zero_le _⟩) hS (fun H locs hP hS => ?_)
          obtain ⟨st3, e3⟩ : ∃ z, z = (fX4_begin sv 0).2 := ⟨_, rfl⟩
          rw [← e3] at hP
          refine lv_istore (lv' := [(6, .int ((fX4_begin sv 0).1)), (5, .int (0 + (4 * (nI i)))), (4, .int (nI i)), (2, .long w2), (0, .ref (ad 10 0)), (1, .int 0)]) hx hb dX4_sum_59 hl (by decide) rfl (fun ls hl => ?_)
          refine lv_iload hx hb dX4_sum_61 (lv_at hl 0 rfl) ?_
          refine lv_if_eq (tgt := 70) hx hb dX4_sum_63 (by decide) (fun c_4 => ?_) (fun c_4 => ?_)
          · refine lv_lload_n hx hb dX4_sum_70 rfl (lv_at hl 3 rfl) ?_
            refine lv_aload_n hx hb dX4_sum_71 rfl (lv_at hl 4 rfl) ?_
            refine lv_iload_n hx hb dX4_sum_72 rfl (lv_at hl 5 rfl) ?_
            refine lv_aload_n hx hb dX4_sum_73 rfl (lv_at hl 4 rfl) ?_
            refine og_get (C := RX4) (T := TX4) (N := 19) (g := 10) (i := 0) (v := .ref (ad 11 9)) hx hb hts li_X4_sum_0_X4 hown hC hP (ow_q10_0) rfl rfl 12 (by decide) (hts _ lk_X4_sum_0_2) rfl rfl dX4_sum_74 ?_
            refine lv_iload hx hb dX4_sum_77 (lv_at hl 1 rfl) ?_
            refine og_iald (g := 11) (i := 9) (j := ((0 + (4 * (nI i))).toNatClampNeg)) (v := (st3.1 57 ((0 + (4 * (nI i))).toNatClampNeg))) hx hb hC hP (ow_q11_9) rfl (at_in0 (at_0 ⟨i, Nat.lt_of_lt_of_le (ow_lt (by rw [← hB]; exact c_1) hle (by omega)) hB30, rfl⟩)) rfl rfl dX4_sum_79 ?_
            refine lv_aload_n hx hb dX4_sum_80 rfl (lv_at hl 4 rfl) ?_
            refine og_get (C := RX4) (T := TX4) (N := 19) (g := 10) (i := 0) (v := .ref (ad 11 9)) hx hb hts li_X4_sum_0_X4 hown hC hP (ow_q10_0) rfl rfl 12 (by decide) (hts _ lk_X4_sum_0_2) rfl rfl dX4_sum_81 ?_
            refine lv_iload hx hb dX4_sum_84 (lv_at hl 1 rfl) ?_
            refine lv_iload_n hx hb dX4_sum_86 rfl (lv_at hl 5 rfl) ?_
            refine lv_if_ne (tgt := 94) hx hb dX4_sum_87 (by decide) (fun c => absurd (by decide) c) (fun _ => ?_)
            refine lv_iconst (v := 1) hx hb dX4_sum_90 (by decide) ?_
            refine lv_goto (tgt := 95) hx hb dX4_sum_91 (by decide) ?_
            refine lv_iadd hx hb dX4_sum_95 ?_
            refine og_iald (g := 11) (i := 9) (j := (((0 + (4 * (nI i))) + 1).toNatClampNeg)) (v := (st3.1 57 (((0 + (4 * (nI i))) + 1).toNatClampNeg))) hx hb hC hP (ow_q11_9) rfl (at_in (d := 1) (at_0 ⟨i, Nat.lt_of_lt_of_le (ow_lt (by rw [← hB]; exact c_1) hle (by omega)) hB30, rfl⟩) (by decide)) rfl rfl dX4_sum_96 ?_
            refine lv_i2l (v := (st3.1 57 (((0 + (4 * (nI i))) + 1).toNatClampNeg)).toInt64) hx hb dX4_sum_97 rfl ?_
            refine og_ciW (og_runV (C := RX4) (T := TX4) (N := 19) (g := 10) (i := 0) (As := [.int 0, .int (st3.1 57 ((0 + (4 * (nI i))).toNatClampNeg)), .long ((st3.1 57 (((0 + (4 * (nI i))) + 1).toNatClampNeg)).toInt64)]) (rest := [.long w2]) ⟨hx, hb, hml, hown, hts⟩ (kX4_works l D ca ad A st3 0 (st3.1 57 ((0 + (4 * (nI i))).toNatClampNeg)) ((st3.1 57 (((0 + (4 * (nI i))) + 1).toNatClampNeg)).toInt64)) (cwV 3 hts gX4_sum_X4_works rfl rfl rfl (by decide +kernel) ⟨Nat.le_of_ble_eq_true rfl, Nat.le_of_ble_eq_true rfl⟩) hC hP hS (ow_q10_0) rfl rfl rfl hl.1 rfl (Nat.le_of_ble_eq_true rfl) dX4_sum_98 ⟨Nat.zero_le _, Nat.zero_le _⟩) hS (fun H locs hP hS => ?_)
            obtain ⟨st5, e5⟩ : ∃ z, z = (fX4_works st3 0 (st3.1 57 ((0 + (4 * (nI i))).toNatClampNeg)) ((st3.1 57 (((0 + (4 * (nI i))) + 1).toNatClampNeg)).toInt64)).2 := ⟨_, rfl⟩
            rw [← e5] at hP
            refine lv_iconst (v := 1) hx hb dX4_sum_101 (by decide) ?_
            refine lv_icmp_ne (tgt := 112) hx hb dX4_sum_102 (by decide) (fun c_6 => ?_) (fun c_6 => ?_)
            · refine lv_lconst (v := 0) hx hb dX4_sum_112 rfl ?_
              refine lv_ladd hx hb dX4_sum_113 ?_
              refine lv_lstore_n (lv' := [(2, .long (w2 + 0)), (6, .int ((fX4_begin sv 0).1)), (5, .int (0 + (4 * (nI i)))), (4, .int (nI i)), (0, .ref (ad 10 0)), (1, .int 0)]) hx hb dX4_sum_114 rfl hl (by decide) rfl (fun ls hl => ?_)
              refine lv_iinc (v := (nI (i + 1))) (lv' := [(4, .int (nI (i + 1))), (2, .long (w2 + 0)), (6, .int ((fX4_begin sv 0).1)), (5, .int (0 + (4 * (nI i)))), (0, .ref (ad 10 0)), (1, .int 0)]) hx hb dX4_sum_115 hl (k := 3) rfl (nI_1 _) (by decide) rfl (fun ls hl => ?_)
              refine lv_goto (tgt := 16) hx hb dX4_sum_118 (by decide) ?_
              exact ih (i + 1) (w2 + 0) st5 _ _ _ (ow_lt (by rw [← hB]; exact c_1) hle (by omega)) (by omega) (by subst e5; subst e3; simp only [bg_fr, wk_fr]; exact hB) (by subst e5; subst e3; rw [← heq]; simp only [flX4_sum_0, if_neg c_1, if_pos c_2, if_pos c_4, if_neg c_6]) hP hS (lv_sub hl [0, 1, 4, 5] rfl)
            · refine lv_aload_n hx hb dX4_sum_105 rfl (lv_at hl 4 rfl) ?_
              refine og_get (C := RX4) (T := TX4) (N := 19) (g := 10) (i := 0) (v := .long (st5.2.1 2)) hx hb hts li_X4_sum_0_X4 hown hC hP (ow_q10_0) rfl rfl 17 (by decide) (hts _ lk_X4_sum_0_3) rfl rfl dX4_sum_106 ?_
              refine lv_goto (tgt := 113) hx hb dX4_sum_109 (by decide) ?_
              refine lv_ladd hx hb dX4_sum_113 ?_
              refine lv_lstore_n (lv' := [(2, .long (w2 + (st5.2.1 2))), (6, .int ((fX4_begin sv 0).1)), (5, .int (0 + (4 * (nI i)))), (4, .int (nI i)), (0, .ref (ad 10 0)), (1, .int 0)]) hx hb dX4_sum_114 rfl hl (by decide) rfl (fun ls hl => ?_)
              refine lv_iinc (v := (nI (i + 1))) (lv' := [(4, .int (nI (i + 1))), (2, .long (w2 + (st5.2.1 2))), (6, .int ((fX4_begin sv 0).1)), (5, .int (0 + (4 * (nI i)))), (0, .ref (ad 10 0)), (1, .int 0)]) hx hb dX4_sum_115 hl (k := 3) rfl (nI_1 _) (by decide) rfl (fun ls hl => ?_)
              refine lv_goto (tgt := 16) hx hb dX4_sum_118 (by decide) ?_
              exact ih (i + 1) (w2 + (st5.2.1 2)) st5 _ _ _ (ow_lt (by rw [← hB]; exact c_1) hle (by omega)) (by omega) (by subst e5; subst e3; simp only [bg_fr, wk_fr]; exact hB) (by subst e5; subst e3; rw [← heq]; simp only [flX4_sum_0, if_neg c_1, if_pos c_2, if_pos c_4, if_pos c_6]) hP hS (lv_sub hl [0, 1, 4, 5] rfl)
          · refine lv_iload hx hb dX4_sum_66 (lv_at hl 0 rfl) ?_
            refine lv_i2l (v := ((fX4_begin sv 0).1).toInt64) hx hb dX4_sum_68 rfl ?_
            exact W.lret (v := (((fX4_begin sv 0).1).toInt64)) hx hb hr (fun t ht hW => ⟨⟨(((fX4_begin sv 0).1).toInt64), st3, rfl, (by subst e3; rw [← heq]; simp only [flX4_sum_0, if_neg c_1, if_pos c_2, if_neg c_4]), ow_Bi ht hP⟩, hS.F ht⟩) hS.2.2 dX4_sum_69
  exact loop (((st.1 56 0).toNatClampNeg) + 1) 0 (0 : Int64) st _ _ _ (Nat.zero_le _) (by omega) (mz_nI hmz0).1 (by simp only [fX4_sum_0]) hP hS (lv_sub hl [0, 1, 2, 3] rfl)

theorem li_X4_record_1_X4 : ∀ w ∈ u_ws RX4 TX4 19, w ∈ wsX4_record := by decide +kernel
theorem lk_X4_record_1_1 : (.fieldLink RX4 60 "RecordLabelsModel" "records" "[I" : Cond) ∈ wsX4_record := by decide +kernel
theorem lk_X4_record_1_2 : (.fieldLink RX4 76 "RecordLabelsModel" "draft" "[I" : Cond) ∈ wsX4_record := by decide +kernel
theorem lk_X4_record_1_3 : (.fieldLink RX4 63 "RecordLabelsModel" "cells" "[I" : Cond) ∈ wsX4_record := by decide +kernel
theorem lk_X4_record_1_4 : (.fieldLink RX4 144 "RecordLabelsModel" "wrongs" "I" : Cond) ∈ wsX4_record := by decide +kernel
def fX4_record_1 (st : ow_St) (x2 x3 x4 x5 : Int32) : Int32 × ow_St := (if (st.1 56 1) = 30 then ((-2), st) else (let st2 := (ow_si st 60 0 (fX4_constant st 1 x2)); (let st3 := (ow_si st2 60 1 x3); (let st4 := (ow_si st3 60 2 x4); (let st5 := (ow_si st4 60 3 x5); (if (fX4_wrong_1_12 st5) = (-4) then (let st7 := (ow_si st5 57 (((120 + (4 * (st5.1 56 1))) + 0).toNatClampNeg) (st5.1 60 0)); (let st8 := (ow_si st7 57 (((120 + (4 * (st5.1 56 1))) + 1).toNatClampNeg) (st7.1 60 1)); (let st9 := (ow_si st8 57 (((120 + (4 * (st5.1 56 1))) + 2).toNatClampNeg) (st8.1 60 2)); (let st10 := (ow_si st9 57 (((120 + (4 * (st5.1 56 1))) + 3).toNatClampNeg) (st9.1 60 3)); (let st11 := (fX4_take_12 st10 1); (let st12 := (ow_si st11 56 1 ((st11.1 56 1) + 1)); (((st12.1 56 1) - 1), st12))))))) else (let st13 := (ow_si st5 61 1 ((st5.1 61 1) + 1)); (((-10) - (fX4_wrong_1_12 st5)), st13))))))))
set_option maxHeartbeats 4000000 in
set_option maxRecDepth 100000 in
theorem kX4_record_1 (l : Launch) (D : va_G) (ca : Nat → ClassId) (ad : ow_Ad) (A : Nat → Prop) (st : ow_St) (x2 : Int32) (x3 : Int32) (x4 : Int32) (x5 : Int32) (hmz1 : iv_mz st 1) : Met l yX4_record wsX4_record ({ frames := 3, cells := 0, slots := 0, locals := 66 }) (va_Pc [.ref (ad 10 0), .int 1, .int x2, .int x3, .int x4, .int x5] (ow_W D ca ad A st)) (va_Qi (fun r st' => (r, st') = (fX4_record_1 st x2 x3 x4 x5)) (ow_B D ca ad) A) 0 0 A := by
  refine Met.ofW (cc := cX4_record) (maxL := 9) (ret := (some .int)) (by decide) rfl ?_
  intro p e s m args below meth c s₁ B hml hv
  obtain ⟨rfl, hP, hC⟩ := hv
  have hx := B.exec
  have hb := B.bytes
  have hr := B.returns
  have hts := atoms_spec (ws := wsX4_record) B.pre
  have hown : s.vm.findClass RX4 = some m.cls := findClass_of_methodNamed B.named
  have hlocks := B.notSynchronized
  have hS : va_S A s.heap s.heap [] := va_S.rf
  have hl := lv_entry ([.ref (ad 10 0), .int 1, .int x2, .int x3, .int x4, .int x5]) (n := 9) (Nat.le_of_ble_eq_true rfl)
  rw [lg_entry_eq]
  generalize (lg_sl ([.ref (ad 10 0), .int 1, .int x2, .int x3, .int x4, .int x5]) ++ List.replicate (9 - (lg_sl ([.ref (ad 10 0), .int 1, .int x2, .int x3, .int x4, .int x5])).length) Slot.unset).toArray = ls at hl ⊢
  have hl : lv_has ls 9 [(0, .ref (ad 10 0)), (1, .int 1), (2, .int x2), (3, .int x3), (4, .int x4), (5, .int x5)] := hl
  refine lv_iload_n hx hb dX4_record_0 rfl (lv_at hl 1 rfl) ?_
  refine og_ciP (og_runS (As := [.int 1]) (rest := []) ⟨hx, hb, hml, hown, hts⟩ (kX4_isTable l D ca ad A st 1) (va_cwS 1 hts gX4_record_X4_isTable rfl rfl rfl (by decide +kernel) ⟨Nat.le_of_ble_eq_true rfl, Nat.le_of_ble_eq_true rfl⟩) hC hP hS rfl hl.1 rfl (Nat.le_of_ble_eq_true rfl) dX4_record_1 ⟨Nat.zero_le _, Nat.zero_le _⟩) hS (fun H locs hP hS => ?_)
  refine lv_if_ne (tgt := 9) hx hb dX4_record_4 (by decide) (fun _ => ?_) (fun c => absurd c isT_1)
  refine lv_aload_n hx hb dX4_record_9 rfl (lv_at hl 0 rfl) ?_
  refine og_get (C := RX4) (T := TX4) (N := 19) (g := 10) (i := 0) (v := .ref (ad 11 8)) hx hb hts li_X4_record_1_X4 hown hC hP (ow_q10_0) rfl rfl 11 (by decide) (hts _ lk_X4_record_1_1) rfl rfl dX4_record_10 ?_
  refine lv_iload_n hx hb dX4_record_13 rfl (lv_at hl 1 rfl) ?_
  refine og_iald (g := 11) (i := 8) (j := 1) (v := (st.1 56 1)) hx hb hC hP (ow_q11_8) rfl (by unfold vp_in; decide) rfl rfl dX4_record_14 ?_
  refine lv_bipush (v := 30) hx hb dX4_record_15 (by decide) ?_
  refine lv_icmp_ne (tgt := 23) hx hb dX4_record_17 (by decide) (fun c_1 => ?_) (fun c_1 => ?_)
  · refine lv_aload_n hx hb dX4_record_23 rfl (lv_at hl 0 rfl) ?_
    refine og_get (C := RX4) (T := TX4) (N := 19) (g := 10) (i := 0) (v := .ref (ad 11 12)) hx hb hts li_X4_record_1_X4 hown hC hP (ow_q10_0) rfl rfl 18 (by decide) (hts _ lk_X4_record_1_2) rfl rfl dX4_record_24 ?_
    refine lv_iconst (v := 0) hx hb dX4_record_27 (by decide) ?_
    refine lv_aload_n hx hb dX4_record_28 rfl (lv_at hl 0 rfl) ?_
    refine lv_iload_n hx hb dX4_record_29 rfl (lv_at hl 1 rfl) ?_
    refine lv_iload_n hx hb dX4_record_30 rfl (lv_at hl 2 rfl) ?_
    refine og_ciP (og_runV (C := RX4) (T := TX4) (N := 19) (g := 10) (i := 0) (As := [.int 1, .int x2]) (rest := [.int 0, .ref (ad 11 12)]) ⟨hx, hb, hml, hown, hts⟩ (kX4_constant l D ca ad A st 1 x2 (by unfold vp_in; decide)) (cwV 2 hts gX4_record_X4_constant rfl rfl rfl (by decide +kernel) ⟨Nat.le_of_ble_eq_true rfl, Nat.le_of_ble_eq_true rfl⟩) hC hP hS (ow_q10_0) rfl rfl rfl hl.1 rfl (Nat.le_of_ble_eq_true rfl) dX4_record_31 ⟨Nat.zero_le _, Nat.zero_le _⟩) hS (fun H locs hP hS => ?_)
    refine og_iast (g := 11) (i := 12) (j := 0) (v := (fX4_constant st 1 x2)) hx hb hC hP hS (ow_q11_12) rfl (by unfold vp_in; decide) rfl (we_11_12 st 0 (fX4_constant st 1 x2)) dX4_record_34 (fun H locs hP hS => ?_)
    obtain ⟨st2, e2⟩ : ∃ z, z = (ow_si st 60 0 (fX4_constant st 1 x2)) := ⟨_, rfl⟩
    rw [← e2] at hP
    refine lv_aload_n hx hb dX4_record_35 rfl (lv_at hl 0 rfl) ?_
    refine og_get (C := RX4) (T := TX4) (N := 19) (g := 10) (i := 0) (v := .ref (ad 11 12)) hx hb hts li_X4_record_1_X4 hown hC hP (ow_q10_0) rfl rfl 18 (by decide) (hts _ lk_X4_record_1_2) rfl rfl dX4_record_36 ?_
    refine lv_iconst (v := 1) hx hb dX4_record_39 (by decide) ?_
    refine lv_iload_n hx hb dX4_record_40 rfl (lv_at hl 3 rfl) ?_
    refine og_iast (g := 11) (i := 12) (j := 1) (v := x3) hx hb hC hP hS (ow_q11_12) rfl (by unfold vp_in; decide) rfl (we_11_12 st2 1 x3) dX4_record_41 (fun H locs hP hS => ?_)
    obtain ⟨st3, e3⟩ : ∃ z, z = (ow_si st2 60 1 x3) := ⟨_, rfl⟩
    rw [← e3] at hP
    refine lv_aload_n hx hb dX4_record_42 rfl (lv_at hl 0 rfl) ?_
    refine og_get (C := RX4) (T := TX4) (N := 19) (g := 10) (i := 0) (v := .ref (ad 11 12)) hx hb hts li_X4_record_1_X4 hown hC hP (ow_q10_0) rfl rfl 18 (by decide) (hts _ lk_X4_record_1_2) rfl rfl dX4_record_43 ?_
    refine lv_iconst (v := 2) hx hb dX4_record_46 (by decide) ?_
    refine lv_iload_n hx hb dX4_record_47 rfl (lv_at hl 1 rfl) ?_
    refine lv_if_ne (tgt := 61) hx hb dX4_record_48 (by decide) (fun _ => ?_) (fun c => absurd c (by decide))
    refine lv_iload hx hb dX4_record_61 (lv_at hl 4 rfl) ?_
    refine og_iast (g := 11) (i := 12) (j := 2) (v := x4) hx hb hC hP hS (ow_q11_12) rfl (by unfold vp_in; decide) rfl (we_11_12 st3 2 x4) dX4_record_63 (fun H locs hP hS => ?_)
    obtain ⟨st4, e4⟩ : ∃ z, z = (ow_si st3 60 2 x4) := ⟨_, rfl⟩
    rw [← e4] at hP
    refine lv_aload_n hx hb dX4_record_64 rfl (lv_at hl 0 rfl) ?_
    refine og_get (C := RX4) (T := TX4) (N := 19) (g := 10) (i := 0) (v := .ref (ad 11 12)) hx hb hts li_X4_record_1_X4 hown hC hP (ow_q10_0) rfl rfl 18 (by decide) (hts _ lk_X4_record_1_2) rfl rfl dX4_record_65 ?_
    refine lv_iconst (v := 3) hx hb dX4_record_68 (by decide) ?_
    refine lv_iload_n hx hb dX4_record_69 rfl (lv_at hl 1 rfl) ?_
    refine lv_if_ne (tgt := 77) hx hb dX4_record_70 (by decide) (fun _ => ?_) (fun c => absurd c (by decide))
    refine lv_iload hx hb dX4_record_77 (lv_at hl 5 rfl) ?_
    refine og_iast (g := 11) (i := 12) (j := 3) (v := x5) hx hb hC hP hS (ow_q11_12) rfl (by unfold vp_in; decide) rfl (we_11_12 st4 3 x5) dX4_record_79 (fun H locs hP hS => ?_)
    obtain ⟨st5, e5⟩ : ∃ z, z = (ow_si st4 60 3 x5) := ⟨_, rfl⟩
    rw [← e5] at hP
    refine lv_aload_n hx hb dX4_record_80 rfl (lv_at hl 0 rfl) ?_
    refine lv_iload_n hx hb dX4_record_81 rfl (lv_at hl 1 rfl) ?_
    refine lv_aload_n hx hb dX4_record_82 rfl (lv_at hl 0 rfl) ?_
    refine og_get (C := RX4) (T := TX4) (N := 19) (g := 10) (i := 0) (v := .ref (ad 11 12)) hx hb hts li_X4_record_1_X4 hown hC hP (ow_q10_0) rfl rfl 18 (by decide) (hts _ lk_X4_record_1_2) rfl rfl dX4_record_83 ?_
    refine lv_iconst (v := 0) hx hb dX4_record_86 (by decide) ?_
    refine og_ciP (og_runV (C := RX4) (T := TX4) (N := 19) (g := 10) (i := 0) (As := [.int 1, .ref (ad 11 12), .int 0]) (rest := []) ⟨hx, hb, hml, hown, hts⟩ (kX4_wrong_1_12 l D ca ad A st5) (cwV 3 hts gX4_record_X4_wrong rfl rfl rfl (by decide +kernel) ⟨Nat.le_of_ble_eq_true rfl, Nat.le_of_ble_eq_true rfl⟩) hC hP hS (ow_q10_0) rfl rfl rfl hl.1 rfl (Nat.le_of_ble_eq_true rfl) dX4_record_87 ⟨Nat.zero_le _, Nat.zero_le _⟩) hS (fun H locs hP hS => ?_)
    refine lv_istore (lv' := [(6, .int (fX4_wrong_1_12 st5)), (0, .ref (ad 10 0)), (1, .int 1), (2, .int x2), (3, .int x3), (4, .int x4), (5, .int x5)]) hx hb dX4_record_90 hl (by decide) rfl (fun ls hl => ?_)
    refine lv_iload hx hb dX4_record_92 (lv_at hl 0 rfl) ?_
    refine lv_bipush (v := (-4)) hx hb dX4_record_94 (by decide) ?_
    refine lv_icmp_eq (tgt := 115) hx hb dX4_record_96 (by decide) (fun c_6 => ?_) (fun c_6 => ?_)
    · refine lv_bipush (v := 120) hx hb dX4_record_115 (by decide) ?_
      refine lv_iload_n hx hb dX4_record_117 rfl (lv_at hl 2 rfl) ?_
      refine lv_imul hx hb dX4_record_118 ?_
      rw [show (120 : Int32) * 1 = (120 : Int32) from rfl]
      refine lv_iconst (v := 4) hx hb dX4_record_119 (by decide) ?_
      refine lv_aload_n hx hb dX4_record_120 rfl (lv_at hl 1 rfl) ?_
      refine og_get (C := RX4) (T := TX4) (N := 19) (g := 10) (i := 0) (v := .ref (ad 11 8)) hx hb hts li_X4_record_1_X4 hown hC hP (ow_q10_0) rfl rfl 11 (by decide) (hts _ lk_X4_record_1_1) rfl rfl dX4_record_121 ?_
      refine lv_iload_n hx hb dX4_record_124 rfl (lv_at hl 2 rfl) ?_
      refine og_iald (g := 11) (i := 8) (j := 1) (v := (st5.1 56 1)) hx hb hC hP (ow_q11_8) rfl (by unfold vp_in; decide) rfl rfl dX4_record_125 ?_
      refine lv_imul hx hb dX4_record_126 ?_
      refine lv_iadd hx hb dX4_record_127 ?_
      refine lv_istore (lv' := [(7, .int (120 + (4 * (st5.1 56 1)))), (6, .int (fX4_wrong_1_12 st5)), (0, .ref (ad 10 0)), (1, .int 1), (2, .int x2), (3, .int x3), (4, .int x4), (5, .int x5)]) hx hb dX4_record_128 hl (by decide) rfl (fun ls hl => ?_)
      refine lv_iconst (v := 0) hx hb dX4_record_130 (by decide) ?_
      refine lv_istore (lv' := [(8, .int 0), (7, .int (120 + (4 * (st5.1 56 1)))), (6, .int (fX4_wrong_1_12 st5)), (0, .ref (ad 10 0)), (1, .int 1), (2, .int x2), (3, .int x3), (4, .int x4), (5, .int x5)]) hx hb dX4_record_131 hl (by decide) rfl (fun ls hl => ?_)
      refine lv_iload hx hb dX4_record_133 (lv_at hl 0 rfl) ?_
      refine lv_iconst (v := 4) hx hb dX4_record_135 (by decide) ?_
      refine lv_icmp_ge (tgt := 162) hx hb dX4_record_136 (by decide) (fun c => absurd c (by decide)) (fun _ => ?_)
      refine lv_aload_n hx hb dX4_record_139 rfl (lv_at hl 3 rfl) ?_
      refine og_get (C := RX4) (T := TX4) (N := 19) (g := 10) (i := 0) (v := .ref (ad 11 9)) hx hb hts li_X4_record_1_X4 hown hC hP (ow_q10_0) rfl rfl 12 (by decide) (hts _ lk_X4_record_1_3) rfl rfl dX4_record_140 ?_
      refine lv_iload hx hb dX4_record_143 (lv_at hl 1 rfl) ?_
      refine lv_iload hx hb dX4_record_145 (lv_at hl 0 rfl) ?_
      refine lv_iadd hx hb dX4_record_147 ?_
      refine lv_aload_n hx hb dX4_record_148 rfl (lv_at hl 3 rfl) ?_
      refine og_get (C := RX4) (T := TX4) (N := 19) (g := 10) (i := 0) (v := .ref (ad 11 12)) hx hb hts li_X4_record_1_X4 hown hC hP (ow_q10_0) rfl rfl 18 (by decide) (hts _ lk_X4_record_1_2) rfl rfl dX4_record_149 ?_
      refine lv_iload hx hb dX4_record_152 (lv_at hl 0 rfl) ?_
      refine og_iald (g := 11) (i := 12) (j := 0) (v := (st5.1 60 0)) hx hb hC hP (ow_q11_12) rfl (by unfold vp_in; decide) rfl rfl dX4_record_154 ?_
      refine og_iast (g := 11) (i := 9) (j := (((120 + (4 * (st5.1 56 1))) + 0).toNatClampNeg)) (v := (st5.1 60 0)) hx hb hC hP hS (ow_q11_9) rfl (by have h9 := at_1 (rc_lt hmz1 c_1); subst e5; subst e4; subst e3; subst e2; simp (disch := decide) only [ow_si_ne]; exact at_in (d := 0) h9 (by decide)) rfl (we_11_9 st5 (((120 + (4 * (st5.1 56 1))) + 0).toNatClampNeg) (st5.1 60 0)) dX4_record_155 (fun H locs hP hS => ?_)
      obtain ⟨st7, e7⟩ : ∃ z, z = (ow_si st5 57 (((120 + (4 * (st5.1 56 1))) + 0).toNatClampNeg) (st5.1 60 0)) := ⟨_, rfl⟩
      rw [← e7] at hP
      refine lv_iinc (v := 1) (lv' := [(8, .int 1), (7, .int (120 + (4 * (st5.1 56 1)))), (6, .int (fX4_wrong_1_12 st5)), (0, .ref (ad 10 0)), (1, .int 1), (2, .int x2), (3, .int x3), (4, .int x4), (5, .int x5)]) hx hb dX4_record_156 hl (k := 0) rfl (by decide) (by decide) rfl (fun ls hl => ?_)
      refine lv_goto (tgt := 133) hx hb dX4_record_159 (by decide) ?_
      refine lv_iload hx hb dX4_record_133 (lv_at hl 0 rfl) ?_
      refine lv_iconst (v := 4) hx hb dX4_record_135 (by decide) ?_
      refine lv_icmp_ge (tgt := 162) hx hb dX4_record_136 (by decide) (fun c => absurd c (by decide)) (fun _ => ?_)
      refine lv_aload_n hx hb dX4_record_139 rfl (lv_at hl 3 rfl) ?_
      refine og_get (C := RX4) (T := TX4) (N := 19) (g := 10) (i := 0) (v := .ref (ad 11 9)) hx hb hts li_X4_record_1_X4 hown hC hP (ow_q10_0) rfl rfl 12 (by decide) (hts _ lk_X4_record_1_3) rfl rfl dX4_record_140 ?_
      refine lv_iload hx hb dX4_record_143 (lv_at hl 1 rfl) ?_
      refine lv_iload hx hb dX4_record_145 (lv_at hl 0 rfl) ?_
      refine lv_iadd hx hb dX4_record_147 ?_
      refine lv_aload_n hx hb dX4_record_148 rfl (lv_at hl 3 rfl) ?_
      refine og_get (C := RX4) (T := TX4) (N := 19) (g := 10) (i := 0) (v := .ref (ad 11 12)) hx hb hts li_X4_record_1_X4 hown hC hP (ow_q10_0) rfl rfl 18 (by decide) (hts _ lk_X4_record_1_2) rfl rfl dX4_record_149 ?_
      refine lv_iload hx hb dX4_record_152 (lv_at hl 0 rfl) ?_
      refine og_iald (g := 11) (i := 12) (j := 1) (v := (st7.1 60 1)) hx hb hC hP (ow_q11_12) rfl (by unfold vp_in; decide) rfl rfl dX4_record_154 ?_
      refine og_iast (g := 11) (i := 9) (j := (((120 + (4 * (st5.1 56 1))) + 1).toNatClampNeg)) (v := (st7.1 60 1)) hx hb hC hP hS (ow_q11_9) rfl (by have h9 := at_1 (rc_lt hmz1 c_1); subst e7; subst e5; subst e4; subst e3; subst e2; simp (disch := decide) only [ow_si_ne]; exact at_in (d := 1) h9 (by decide)) rfl (we_11_9 st7 (((120 + (4 * (st5.1 56 1))) + 1).toNatClampNeg) (st7.1 60 1)) dX4_record_155 (fun H locs hP hS => ?_)
      obtain ⟨st8, e8⟩ : ∃ z, z = (ow_si st7 57 (((120 + (4 * (st5.1 56 1))) + 1).toNatClampNeg) (st7.1 60 1)) := ⟨_, rfl⟩
      rw [← e8] at hP
      refine lv_iinc (v := 2) (lv' := [(8, .int 2), (7, .int (120 + (4 * (st5.1 56 1)))), (6, .int (fX4_wrong_1_12 st5)), (0, .ref (ad 10 0)), (1, .int 1), (2, .int x2), (3, .int x3), (4, .int x4), (5, .int x5)]) hx hb dX4_record_156 hl (k := 0) rfl (by decide) (by decide) rfl (fun ls hl => ?_)
      refine lv_goto (tgt := 133) hx hb dX4_record_159 (by decide) ?_
      refine lv_iload hx hb dX4_record_133 (lv_at hl 0 rfl) ?_
      refine lv_iconst (v := 4) hx hb dX4_record_135 (by decide) ?_
      refine lv_icmp_ge (tgt := 162) hx hb dX4_record_136 (by decide) (fun c => absurd c (by decide)) (fun _ => ?_)
      refine lv_aload_n hx hb dX4_record_139 rfl (lv_at hl 3 rfl) ?_
      refine og_get (C := RX4) (T := TX4) (N := 19) (g := 10) (i := 0) (v := .ref (ad 11 9)) hx hb hts li_X4_record_1_X4 hown hC hP (ow_q10_0) rfl rfl 12 (by decide) (hts _ lk_X4_record_1_3) rfl rfl dX4_record_140 ?_
      refine lv_iload hx hb dX4_record_143 (lv_at hl 1 rfl) ?_
      refine lv_iload hx hb dX4_record_145 (lv_at hl 0 rfl) ?_
      refine lv_iadd hx hb dX4_record_147 ?_
      refine lv_aload_n hx hb dX4_record_148 rfl (lv_at hl 3 rfl) ?_
      refine og_get (C := RX4) (T := TX4) (N := 19) (g := 10) (i := 0) (v := .ref (ad 11 12)) hx hb hts li_X4_record_1_X4 hown hC hP (ow_q10_0) rfl rfl 18 (by decide) (hts _ lk_X4_record_1_2) rfl rfl dX4_record_149 ?_
      refine lv_iload hx hb dX4_record_152 (lv_at hl 0 rfl) ?_
      refine og_iald (g := 11) (i := 12) (j := 2) (v := (st8.1 60 2)) hx hb hC hP (ow_q11_12) rfl (by unfold vp_in; decide) rfl rfl dX4_record_154 ?_
      refine og_iast (g := 11) (i := 9) (j := (((120 + (4 * (st5.1 56 1))) + 2).toNatClampNeg)) (v := (st8.1 60 2)) hx hb hC hP hS (ow_q11_9) rfl (by have h9 := at_1 (rc_lt hmz1 c_1); subst e8; subst e7; subst e5; subst e4; subst e3; subst e2; simp (disch := decide) only [ow_si_ne]; exact at_in (d := 2) h9 (by decide)) rfl (we_11_9 st8 (((120 + (4 * (st5.1 56 1))) + 2).toNatClampNeg) (st8.1 60 2)) dX4_record_155 (fun H locs hP hS => ?_)
      obtain ⟨st9, e9⟩ : ∃ z, z = (ow_si st8 57 (((120 + (4 * (st5.1 56 1))) + 2).toNatClampNeg) (st8.1 60 2)) := ⟨_, rfl⟩
      rw [← e9] at hP
      refine lv_iinc (v := 3) (lv' := [(8, .int 3), (7, .int (120 + (4 * (st5.1 56 1)))), (6, .int (fX4_wrong_1_12 st5)), (0, .ref (ad 10 0)), (1, .int 1), (2, .int x2), (3, .int x3), (4, .int x4), (5, .int x5)]) hx hb dX4_record_156 hl (k := 0) rfl (by decide) (by decide) rfl (fun ls hl => ?_)
      refine lv_goto (tgt := 133) hx hb dX4_record_159 (by decide) ?_
      refine lv_iload hx hb dX4_record_133 (lv_at hl 0 rfl) ?_
      refine lv_iconst (v := 4) hx hb dX4_record_135 (by decide) ?_
      refine lv_icmp_ge (tgt := 162) hx hb dX4_record_136 (by decide) (fun c => absurd c (by decide)) (fun _ => ?_)
      refine lv_aload_n hx hb dX4_record_139 rfl (lv_at hl 3 rfl) ?_
      refine og_get (C := RX4) (T := TX4) (N := 19) (g := 10) (i := 0) (v := .ref (ad 11 9)) hx hb hts li_X4_record_1_X4 hown hC hP (ow_q10_0) rfl rfl 12 (by decide) (hts _ lk_X4_record_1_3) rfl rfl dX4_record_140 ?_
      refine lv_iload hx hb dX4_record_143 (lv_at hl 1 rfl) ?_
      refine lv_iload hx hb dX4_record_145 (lv_at hl 0 rfl) ?_
      refine lv_iadd hx hb dX4_record_147 ?_
      refine lv_aload_n hx hb dX4_record_148 rfl (lv_at hl 3 rfl) ?_
      refine og_get (C := RX4) (T := TX4) (N := 19) (g := 10) (i := 0) (v := .ref (ad 11 12)) hx hb hts li_X4_record_1_X4 hown hC hP (ow_q10_0) rfl rfl 18 (by decide) (hts _ lk_X4_record_1_2) rfl rfl dX4_record_149 ?_
      refine lv_iload hx hb dX4_record_152 (lv_at hl 0 rfl) ?_
      refine og_iald (g := 11) (i := 12) (j := 3) (v := (st9.1 60 3)) hx hb hC hP (ow_q11_12) rfl (by unfold vp_in; decide) rfl rfl dX4_record_154 ?_
      refine og_iast (g := 11) (i := 9) (j := (((120 + (4 * (st5.1 56 1))) + 3).toNatClampNeg)) (v := (st9.1 60 3)) hx hb hC hP hS (ow_q11_9) rfl (by have h9 := at_1 (rc_lt hmz1 c_1); subst e9; subst e8; subst e7; subst e5; subst e4; subst e3; subst e2; simp (disch := decide) only [ow_si_ne]; exact at_in (d := 3) h9 (by decide)) rfl (we_11_9 st9 (((120 + (4 * (st5.1 56 1))) + 3).toNatClampNeg) (st9.1 60 3)) dX4_record_155 (fun H locs hP hS => ?_)
      obtain ⟨st10, e10⟩ : ∃ z, z = (ow_si st9 57 (((120 + (4 * (st5.1 56 1))) + 3).toNatClampNeg) (st9.1 60 3)) := ⟨_, rfl⟩
      rw [← e10] at hP
      refine lv_iinc (v := 4) (lv' := [(8, .int 4), (7, .int (120 + (4 * (st5.1 56 1)))), (6, .int (fX4_wrong_1_12 st5)), (0, .ref (ad 10 0)), (1, .int 1), (2, .int x2), (3, .int x3), (4, .int x4), (5, .int x5)]) hx hb dX4_record_156 hl (k := 0) rfl (by decide) (by decide) rfl (fun ls hl => ?_)
      refine lv_goto (tgt := 133) hx hb dX4_record_159 (by decide) ?_
      refine lv_iload hx hb dX4_record_133 (lv_at hl 0 rfl) ?_
      refine lv_iconst (v := 4) hx hb dX4_record_135 (by decide) ?_
      refine lv_icmp_ge (tgt := 162) hx hb dX4_record_136 (by decide) (fun _ => ?_) (fun c => absurd (by decide) c)
      refine lv_aload_n hx hb dX4_record_162 rfl (lv_at hl 3 rfl) ?_
      refine lv_iload_n hx hb dX4_record_163 rfl (lv_at hl 4 rfl) ?_
      refine lv_aload_n hx hb dX4_record_164 rfl (lv_at hl 3 rfl) ?_
      refine og_get (C := RX4) (T := TX4) (N := 19) (g := 10) (i := 0) (v := .ref (ad 11 12)) hx hb hts li_X4_record_1_X4 hown hC hP (ow_q10_0) rfl rfl 18 (by decide) (hts _ lk_X4_record_1_2) rfl rfl dX4_record_165 ?_
      refine lv_iconst (v := 0) hx hb dX4_record_168 (by decide) ?_
      refine og_cvW (og_runV (C := RX4) (T := TX4) (N := 19) (g := 10) (i := 0) (As := [.int 1, .ref (ad 11 12), .int 0]) (rest := []) ⟨hx, hb, hml, hown, hts⟩ (kX4_take_12 l D ca ad A st10 1) (cwV 3 hts gX4_record_X4_take rfl rfl rfl (by decide +kernel) ⟨Nat.le_of_ble_eq_true rfl, Nat.le_of_ble_eq_true rfl⟩) hC hP hS (ow_q10_0) rfl rfl rfl hl.1 rfl (Nat.le_of_ble_eq_true rfl) dX4_record_169 ⟨Nat.zero_le _, Nat.zero_le _⟩) hS (fun H locs hP hS => ?_)
      obtain ⟨st11, e11⟩ : ∃ z, z = (fX4_take_12 st10 1) := ⟨_, rfl⟩
      rw [← e11] at hP
      refine lv_aload_n hx hb dX4_record_172 rfl (lv_at hl 3 rfl) ?_
      refine og_get (C := RX4) (T := TX4) (N := 19) (g := 10) (i := 0) (v := .ref (ad 11 8)) hx hb hts li_X4_record_1_X4 hown hC hP (ow_q10_0) rfl rfl 11 (by decide) (hts _ lk_X4_record_1_1) rfl rfl dX4_record_173 ?_
      refine lv_iload_n hx hb dX4_record_176 rfl (lv_at hl 4 rfl) ?_
      refine lv_dup2_11 hx hb dX4_record_177 rfl rfl ?_
      refine og_iald (g := 11) (i := 8) (j := 1) (v := (st11.1 56 1)) hx hb hC hP (ow_q11_8) rfl (by unfold vp_in; decide) rfl rfl dX4_record_178 ?_
      refine lv_iconst (v := 1) hx hb dX4_record_179 (by decide) ?_
      refine lv_iadd hx hb dX4_record_180 ?_
      refine og_iast (g := 11) (i := 8) (j := 1) (v := ((st11.1 56 1) + 1)) hx hb hC hP hS (ow_q11_8) rfl (by unfold vp_in; decide) rfl (we_11_8 st11 1 ((st11.1 56 1) + 1)) dX4_record_181 (fun H locs hP hS => ?_)
      obtain ⟨st12, e12⟩ : ∃ z, z = (ow_si st11 56 1 ((st11.1 56 1) + 1)) := ⟨_, rfl⟩
      rw [← e12] at hP
      refine lv_aload_n hx hb dX4_record_182 rfl (lv_at hl 3 rfl) ?_
      refine og_get (C := RX4) (T := TX4) (N := 19) (g := 10) (i := 0) (v := .ref (ad 11 8)) hx hb hts li_X4_record_1_X4 hown hC hP (ow_q10_0) rfl rfl 11 (by decide) (hts _ lk_X4_record_1_1) rfl rfl dX4_record_183 ?_
      refine lv_iload_n hx hb dX4_record_186 rfl (lv_at hl 4 rfl) ?_
      refine og_iald (g := 11) (i := 8) (j := 1) (v := (st12.1 56 1)) hx hb hC hP (ow_q11_8) rfl (by unfold vp_in; decide) rfl rfl dX4_record_187 ?_
      refine lv_iconst (v := 1) hx hb dX4_record_188 (by decide) ?_
      refine lv_isub hx hb dX4_record_189 ?_
      exact W.iret (v := ((st12.1 56 1) - 1)) hx hb hr (fun t ht hW => ⟨⟨((st12.1 56 1) - 1), st12, rfl, (by subst e12; subst e11; subst e10; subst e9; subst e8; subst e7; subst e5; subst e4; subst e3; subst e2; simp only [fX4_record_1, if_neg c_1, if_pos c_6]), ow_Bi ht hP⟩, hS.F ht⟩) hS.2.2 dX4_record_190
    · refine lv_aload_n hx hb dX4_record_99 rfl (lv_at hl 1 rfl) ?_
      refine lv_dup hx hb dX4_record_100 rfl ?_
      refine og_get (C := RX4) (T := TX4) (N := 19) (g := 10) (i := 0) (v := .int (st5.1 61 1)) hx hb hts li_X4_record_1_X4 hown hC hP (ow_q10_0) rfl rfl 8 (by decide) (hts _ lk_X4_record_1_4) rfl rfl dX4_record_101 ?_
      refine lv_iconst (v := 1) hx hb dX4_record_104 (by decide) ?_
      refine lv_iadd hx hb dX4_record_105 ?_
      refine og_put (C := RX4) (T := TX4) (N := 19) (g := 10) (i := 0) (v := .int ((st5.1 61 1) + 1)) (ty := .int) hx hb hts li_X4_record_1_X4 tyX4 tyX4_ok nmX4 hown hC hP hS (ow_q10_0) rfl rfl 8 (by decide) (hts _ lk_X4_record_1_4) rfl rfl (by decide +kernel) rfl rfl (Nat.le_of_ble_eq_true rfl) (we_10_1 st5 ((st5.1 61 1) + 1)) dX4_record_106 (fun H locs hP hS => ?_)
      obtain ⟨st13, e13⟩ : ∃ z, z = (ow_si st5 61 1 ((st5.1 61 1) + 1)) := ⟨_, rfl⟩
      rw [← e13] at hP
      refine lv_bipush (v := (-10)) hx hb dX4_record_109 (by decide) ?_
      refine lv_iload hx hb dX4_record_111 (lv_at hl 0 rfl) ?_
      refine lv_isub hx hb dX4_record_113 ?_
      exact W.iret (v := ((-10) - (fX4_wrong_1_12 st5))) hx hb hr (fun t ht hW => ⟨⟨((-10) - (fX4_wrong_1_12 st5)), st13, rfl, (by subst e13; subst e5; subst e4; subst e3; subst e2; simp only [fX4_record_1, if_neg c_1, if_neg c_6]), ow_Bi ht hP⟩, hS.F ht⟩) hS.2.2 dX4_record_114
  · refine lv_bipush (v := (-2)) hx hb dX4_record_20 (by decide) ?_
    exact W.iret (v := (-2)) hx hb hr (fun t ht hW => ⟨⟨(-2), st, rfl, (by simp only [fX4_record_1, if_pos c_1]), ow_Bi ht hP⟩, hS.F ht⟩) hS.2.2 dX4_record_22

theorem li_X4_lay_1_X4 : ∀ w ∈ u_ws RX4 TX4 19, w ∈ wsX4_lay := by decide +kernel
theorem lk_X4_lay_1_1 : (.fieldLink RX4 63 "RecordLabelsModel" "cells" "[I" : Cond) ∈ wsX4_lay := by decide +kernel
def fX4_lay_1 (st : ow_St) (x2 x3 x4 : Int32) : Int32 × ow_St := (if (fX4_isCell_1 st x2 x3) = 0 then ((-1), st) else (if (fX4_kindOf_1 st x3) = (-4) then (let st3 := (ow_si st 57 (((120 + (4 * x2)) + x3).toNatClampNeg) x4); (1, st3)) else (let st4 := (ow_si st 57 (((120 + (4 * x2)) + x3).toNatClampNeg) (fX4_constant st (fX4_kindOf_1 st x3) x4)); (1, st4))))
set_option maxHeartbeats 4000000 in
set_option maxRecDepth 100000 in
theorem kX4_lay_1 (l : Launch) (D : va_G) (ca : Nat → ClassId) (ad : ow_Ad) (A : Nat → Prop) (st : ow_St) (x2 : Int32) (x3 : Int32) (x4 : Int32) (hmz1 : iv_mz st 1) : Met l yX4_lay wsX4_lay ({ frames := 3, cells := 0, slots := 0, locals := 66 }) (va_Pc [.ref (ad 10 0), .int 1, .int x2, .int x3, .int x4] (ow_W D ca ad A st)) (va_Qi (fun r st' => (r, st') = (fX4_lay_1 st x2 x3 x4)) (ow_B D ca ad) A) 0 0 A := by
  refine Met.ofW (cc := cX4_lay) (maxL := 6) (ret := (some .int)) (by decide) rfl ?_
  intro p e s m args below meth c s₁ B hml hv
  obtain ⟨rfl, hP, hC⟩ := hv
  have hx := B.exec
  have hb := B.bytes
  have hr := B.returns
  have hts := atoms_spec (ws := wsX4_lay) B.pre
  have hown : s.vm.findClass RX4 = some m.cls := findClass_of_methodNamed B.named
  have hlocks := B.notSynchronized
  have hS : va_S A s.heap s.heap [] := va_S.rf
  have hl := lv_entry ([.ref (ad 10 0), .int 1, .int x2, .int x3, .int x4]) (n := 6) (Nat.le_of_ble_eq_true rfl)
  rw [lg_entry_eq]
  generalize (lg_sl ([.ref (ad 10 0), .int 1, .int x2, .int x3, .int x4]) ++ List.replicate (6 - (lg_sl ([.ref (ad 10 0), .int 1, .int x2, .int x3, .int x4])).length) Slot.unset).toArray = ls at hl ⊢
  have hl : lv_has ls 6 [(0, .ref (ad 10 0)), (1, .int 1), (2, .int x2), (3, .int x3), (4, .int x4)] := hl
  refine lv_aload_n hx hb dX4_lay_0 rfl (lv_at hl 0 rfl) ?_
  refine lv_iload_n hx hb dX4_lay_1 rfl (lv_at hl 1 rfl) ?_
  refine lv_iload_n hx hb dX4_lay_2 rfl (lv_at hl 2 rfl) ?_
  refine lv_iload_n hx hb dX4_lay_3 rfl (lv_at hl 3 rfl) ?_
  refine og_ciP (og_runV (C := RX4) (T := TX4) (N := 19) (g := 10) (i := 0) (As := [.int 1, .int x2, .int x3]) (rest := []) ⟨hx, hb, hml, hown, hts⟩ (kX4_isCell_1 l D ca ad A st x2 x3) (cwV 3 hts gX4_lay_X4_isCell rfl rfl rfl (by decide +kernel) ⟨Nat.le_of_ble_eq_true rfl, Nat.le_of_ble_eq_true rfl⟩) hC hP hS (ow_q10_0) rfl rfl rfl hl.1 rfl (Nat.le_of_ble_eq_true rfl) dX4_lay_4 ⟨Nat.zero_le _, Nat.zero_le _⟩) hS (fun H locs hP hS => ?_)
  refine lv_if_ne (tgt := 12) hx hb dX4_lay_7 (by decide) (fun c_1 => ?_) (fun c_1 => ?_)
  · refine lv_iload_n hx hb dX4_lay_12 rfl (lv_at hl 1 rfl) ?_
    refine lv_iload_n hx hb dX4_lay_13 rfl (lv_at hl 3 rfl) ?_
    refine og_ciP (og_runS (As := [.int 1, .int x3]) (rest := []) ⟨hx, hb, hml, hown, hts⟩ (kX4_kindOf_1 l D ca ad A st x3) (va_cwS 2 hts gX4_lay_X4_kindOf rfl rfl rfl (by decide +kernel) ⟨Nat.le_of_ble_eq_true rfl, Nat.le_of_ble_eq_true rfl⟩) hC hP hS rfl hl.1 rfl (Nat.le_of_ble_eq_true rfl) dX4_lay_14 ⟨Nat.zero_le _, Nat.zero_le _⟩) hS (fun H locs hP hS => ?_)
    refine lv_istore (lv' := [(5, .int (fX4_kindOf_1 st x3)), (0, .ref (ad 10 0)), (1, .int 1), (2, .int x2), (3, .int x3), (4, .int x4)]) hx hb dX4_lay_17 hl (by decide) rfl (fun ls hl => ?_)
    refine lv_aload_n hx hb dX4_lay_19 rfl (lv_at hl 1 rfl) ?_
    refine og_get (C := RX4) (T := TX4) (N := 19) (g := 10) (i := 0) (v := .ref (ad 11 9)) hx hb hts li_X4_lay_1_X4 hown hC hP (ow_q10_0) rfl rfl 12 (by decide) (hts _ lk_X4_lay_1_1) rfl rfl dX4_lay_20 ?_
    refine lv_bipush (v := 120) hx hb dX4_lay_23 (by decide) ?_
    refine lv_iload_n hx hb dX4_lay_25 rfl (lv_at hl 2 rfl) ?_
    refine lv_imul hx hb dX4_lay_26 ?_
    rw [show (120 : Int32) * 1 = (120 : Int32) from rfl]
    refine lv_iconst (v := 4) hx hb dX4_lay_27 (by decide) ?_
    refine lv_iload_n hx hb dX4_lay_28 rfl (lv_at hl 3 rfl) ?_
    refine lv_imul hx hb dX4_lay_29 ?_
    refine lv_iadd hx hb dX4_lay_30 ?_
    refine lv_iload_n hx hb dX4_lay_31 rfl (lv_at hl 4 rfl) ?_
    refine lv_iadd hx hb dX4_lay_32 ?_
    refine lv_iload hx hb dX4_lay_33 (lv_at hl 0 rfl) ?_
    refine lv_bipush (v := (-4)) hx hb dX4_lay_35 (by decide) ?_
    refine lv_icmp_ne (tgt := 45) hx hb dX4_lay_37 (by decide) (fun c_2 => ?_) (fun c_2 => ?_)
    · refine lv_aload_n hx hb dX4_lay_45 rfl (lv_at hl 1 rfl) ?_
      refine lv_iload hx hb dX4_lay_46 (lv_at hl 0 rfl) ?_
      refine lv_iload hx hb dX4_lay_48 (lv_at hl 5 rfl) ?_
      refine og_ciP (og_runV (C := RX4) (T := TX4) (N := 19) (g := 10) (i := 0) (As := [.int (fX4_kindOf_1 st x3), .int x4]) (rest := [.int ((120 + (4 * x2)) + x3), .ref (ad 11 9)]) ⟨hx, hb, hml, hown, hts⟩ (kX4_constant l D ca ad A st (fX4_kindOf_1 st x3) x4 (kd_in_1 c_2)) (cwV 2 hts gX4_lay_X4_constant rfl rfl rfl (by decide +kernel) ⟨Nat.le_of_ble_eq_true rfl, Nat.le_of_ble_eq_true rfl⟩) hC hP hS (ow_q10_0) rfl rfl rfl hl.1 rfl (Nat.le_of_ble_eq_true rfl) dX4_lay_50 ⟨Nat.zero_le _, Nat.zero_le _⟩) hS (fun H locs hP hS => ?_)
      refine og_iast (g := 11) (i := 9) (j := (((120 + (4 * x2)) + x3).toNatClampNeg)) (v := (fX4_constant st (fX4_kindOf_1 st x3) x4)) hx hb hC hP hS (ow_q11_9) rfl (at_inx (rcx_1 hmz1 c_1) (ity_1 c_1)) rfl (we_11_9 st (((120 + (4 * x2)) + x3).toNatClampNeg) (fX4_constant st (fX4_kindOf_1 st x3) x4)) dX4_lay_53 (fun H locs hP hS => ?_)
      obtain ⟨st4, e4⟩ : ∃ z, z = (ow_si st 57 (((120 + (4 * x2)) + x3).toNatClampNeg) (fX4_constant st (fX4_kindOf_1 st x3) x4)) := ⟨_, rfl⟩
      rw [← e4] at hP
      refine lv_iconst (v := 1) hx hb dX4_lay_54 (by decide) ?_
      exact W.iret (v := 1) hx hb hr (fun t ht hW => ⟨⟨1, st4, rfl, (by subst e4; simp only [fX4_lay_1, if_neg c_1, if_neg c_2]), ow_Bi ht hP⟩, hS.F ht⟩) hS.2.2 dX4_lay_55
    · refine lv_iload hx hb dX4_lay_40 (lv_at hl 5 rfl) ?_
      refine lv_goto (tgt := 53) hx hb dX4_lay_42 (by decide) ?_
      refine og_iast (g := 11) (i := 9) (j := (((120 + (4 * x2)) + x3).toNatClampNeg)) (v := x4) hx hb hC hP hS (ow_q11_9) rfl (at_inx (rcx_1 hmz1 c_1) (ity_1 c_1)) rfl (we_11_9 st (((120 + (4 * x2)) + x3).toNatClampNeg) x4) dX4_lay_53 (fun H locs hP hS => ?_)
      obtain ⟨st3, e3⟩ : ∃ z, z = (ow_si st 57 (((120 + (4 * x2)) + x3).toNatClampNeg) x4) := ⟨_, rfl⟩
      rw [← e3] at hP
      refine lv_iconst (v := 1) hx hb dX4_lay_54 (by decide) ?_
      exact W.iret (v := 1) hx hb hr (fun t ht hW => ⟨⟨1, st3, rfl, (by subst e3; simp only [fX4_lay_1, if_neg c_1, if_pos c_2]), ow_Bi ht hP⟩, hS.F ht⟩) hS.2.2 dX4_lay_55
  · refine lv_iconst (v := (-1)) hx hb dX4_lay_10 (by decide) ?_
    exact W.iret (v := (-1)) hx hb hr (fun t ht hW => ⟨⟨(-1), st, rfl, (by simp only [fX4_lay_1, if_pos c_1]), ow_Bi ht hP⟩, hS.F ht⟩) hS.2.2 dX4_lay_11

theorem lk_X4_cell_1_0 : (.constant RX4 167 (-2000000000) : Cond) ∈ wsX4_cell := by decide +kernel
theorem li_X4_cell_1_X4 : ∀ w ∈ u_ws RX4 TX4 19, w ∈ wsX4_cell := by decide +kernel
theorem lk_X4_cell_1_2 : (.fieldLink RX4 63 "RecordLabelsModel" "cells" "[I" : Cond) ∈ wsX4_cell := by decide +kernel
def fX4_cell_1 (st : ow_St) (x2 x3 : Int32) : Int32 := (if (fX4_isCell_1 st x2 x3) = 0 then (-2000000000) else (fX4_toldOf_1 st x3 (st.1 57 (((120 + (4 * x2)) + x3).toNatClampNeg))))
set_option maxHeartbeats 4000000 in
set_option maxRecDepth 100000 in
theorem kX4_cell_1 (l : Launch) (D : va_G) (ca : Nat → ClassId) (ad : ow_Ad) (A : Nat → Prop) (st : ow_St) (x2 : Int32) (x3 : Int32) (hmz1 : iv_mz st 1) (hcl : iv_mcl st) : Met l yX4_cell wsX4_cell ({ frames := 2, cells := 0, slots := 0, locals := 46 }) (va_Pc [.ref (ad 10 0), .int 1, .int x2, .int x3] (ow_W D ca ad A st)) (va_Qi (fun r st' => r = (fX4_cell_1 st x2 x3) ∧ st' = st) (ow_B D ca ad) A) 0 0 A := by
  refine Met.ofW (cc := cX4_cell) (maxL := 4) (ret := (some .int)) (by decide) rfl ?_
  intro p e s m args below meth c s₁ B hml hv
  obtain ⟨rfl, hP, hC⟩ := hv
  have hx := B.exec
  have hb := B.bytes
  have hr := B.returns
  have hts := atoms_spec (ws := wsX4_cell) B.pre
  have hown : s.vm.findClass RX4 = some m.cls := findClass_of_methodNamed B.named
  have hlocks := B.notSynchronized
  have hS : va_S A s.heap s.heap [] := va_S.rf
  have hl := lv_entry ([.ref (ad 10 0), .int 1, .int x2, .int x3]) (n := 4) (Nat.le_of_ble_eq_true rfl)
  rw [lg_entry_eq]
  generalize (lg_sl ([.ref (ad 10 0), .int 1, .int x2, .int x3]) ++ List.replicate (4 - (lg_sl ([.ref (ad 10 0), .int 1, .int x2, .int x3])).length) Slot.unset).toArray = ls at hl ⊢
  have hl : lv_has ls 4 [(0, .ref (ad 10 0)), (1, .int 1), (2, .int x2), (3, .int x3)] := hl
  refine lv_aload_n hx hb dX4_cell_0 rfl (lv_at hl 0 rfl) ?_
  refine lv_iload_n hx hb dX4_cell_1 rfl (lv_at hl 1 rfl) ?_
  refine lv_iload_n hx hb dX4_cell_2 rfl (lv_at hl 2 rfl) ?_
  refine lv_iload_n hx hb dX4_cell_3 rfl (lv_at hl 3 rfl) ?_
  refine og_ciP (og_runV (C := RX4) (T := TX4) (N := 19) (g := 10) (i := 0) (As := [.int 1, .int x2, .int x3]) (rest := []) ⟨hx, hb, hml, hown, hts⟩ (kX4_isCell_1 l D ca ad A st x2 x3) (cwV 3 hts gX4_cell_X4_isCell rfl rfl rfl (by decide +kernel) ⟨Nat.le_of_ble_eq_true rfl, Nat.le_of_ble_eq_true rfl⟩) hC hP hS (ow_q10_0) rfl rfl rfl hl.1 rfl (Nat.le_of_ble_eq_true rfl) dX4_cell_4 ⟨Nat.zero_le _, Nat.zero_le _⟩) hS (fun H locs hP hS => ?_)
  refine lv_if_eq (tgt := 34) hx hb dX4_cell_7 (by decide) (fun c_1 => ?_) (fun c_1 => ?_)
  · refine lv_ldc (v := (-2000000000)) hx hb hown (hts _ lk_X4_cell_1_0) dX4_cell_34 ?_
    exact W.iret (v := (-2000000000)) hx hb hr (fun t ht hW => ⟨⟨(-2000000000), st, rfl, ⟨(by simp only [fX4_cell_1, if_pos c_1]), rfl⟩, ow_Bi ht hP⟩, hS.F ht⟩) hS.2.2 dX4_cell_36
  · refine lv_aload_n hx hb dX4_cell_10 rfl (lv_at hl 0 rfl) ?_
    refine lv_iload_n hx hb dX4_cell_11 rfl (lv_at hl 1 rfl) ?_
    refine lv_iload_n hx hb dX4_cell_12 rfl (lv_at hl 3 rfl) ?_
    refine lv_aload_n hx hb dX4_cell_13 rfl (lv_at hl 0 rfl) ?_
    refine og_get (C := RX4) (T := TX4) (N := 19) (g := 10) (i := 0) (v := .ref (ad 11 9)) hx hb hts li_X4_cell_1_X4 hown hC hP (ow_q10_0) rfl rfl 12 (by decide) (hts _ lk_X4_cell_1_2) rfl rfl dX4_cell_14 ?_
    refine lv_bipush (v := 120) hx hb dX4_cell_17 (by decide) ?_
    refine lv_iload_n hx hb dX4_cell_19 rfl (lv_at hl 1 rfl) ?_
    refine lv_imul hx hb dX4_cell_20 ?_
    rw [show (120 : Int32) * 1 = (120 : Int32) from rfl]
    refine lv_iconst (v := 4) hx hb dX4_cell_21 (by decide) ?_
    refine lv_iload_n hx hb dX4_cell_22 rfl (lv_at hl 2 rfl) ?_
    refine lv_imul hx hb dX4_cell_23 ?_
    refine lv_iadd hx hb dX4_cell_24 ?_
    refine lv_iload_n hx hb dX4_cell_25 rfl (lv_at hl 3 rfl) ?_
    refine lv_iadd hx hb dX4_cell_26 ?_
    refine og_iald (g := 11) (i := 9) (j := (((120 + (4 * x2)) + x3).toNatClampNeg)) (v := (st.1 57 (((120 + (4 * x2)) + x3).toNatClampNeg))) hx hb hC hP (ow_q11_9) rfl (at_inx (rcx_1 hmz1 c_1) (ity_1 c_1)) rfl rfl dX4_cell_27 ?_
    refine og_ciP (og_runV (C := RX4) (T := TX4) (N := 19) (g := 10) (i := 0) (As := [.int 1, .int x3, .int (st.1 57 (((120 + (4 * x2)) + x3).toNatClampNeg))]) (rest := []) ⟨hx, hb, hml, hown, hts⟩ (kX4_toldOf_1 l D ca ad A st x3 (st.1 57 (((120 + (4 * x2)) + x3).toNatClampNeg)) (cl_10 hcl (rc_of hmz1 (cel_1 c_1).1))) (cwV 3 hts gX4_cell_X4_toldOf rfl rfl rfl (by decide +kernel) ⟨Nat.le_of_ble_eq_true rfl, Nat.le_of_ble_eq_true rfl⟩) hC hP hS (ow_q10_0) rfl rfl rfl hl.1 rfl (Nat.le_of_ble_eq_true rfl) dX4_cell_28 ⟨Nat.zero_le _, Nat.zero_le _⟩) hS (fun H locs hP hS => ?_)
    refine lv_goto (tgt := 36) hx hb dX4_cell_31 (by decide) ?_
    exact W.iret (v := (fX4_toldOf_1 st x3 (st.1 57 (((120 + (4 * x2)) + x3).toNatClampNeg)))) hx hb hr (fun t ht hW => ⟨⟨(fX4_toldOf_1 st x3 (st.1 57 (((120 + (4 * x2)) + x3).toNatClampNeg))), st, rfl, ⟨(by simp only [fX4_cell_1, if_neg c_1]), rfl⟩, ow_Bi ht hP⟩, hS.F ht⟩) hS.2.2 dX4_cell_36

theorem li_X4_back_1_X4 : ∀ w ∈ u_ws RX4 TX4 19, w ∈ wsX4_back := by decide +kernel
theorem lk_X4_back_1_1 : (.fieldLink RX4 63 "RecordLabelsModel" "cells" "[I" : Cond) ∈ wsX4_back := by decide +kernel
theorem lk_X4_back_1_2 : (.fieldLink RX4 144 "RecordLabelsModel" "wrongs" "I" : Cond) ∈ wsX4_back := by decide +kernel
def fX4_back_1 (st : ow_St) (x2 : Int32) : Int32 × ow_St := (if (fX4_isCell_1 st x2 0) = 0 then ((-1), st) else (if (fX4_wrong_1_9 st (120 + (4 * x2))) = (-4) then (let st3 := (fX4_take_9 st 1 (120 + (4 * x2))); (1, st3)) else (let st4 := (ow_si st 61 1 ((st.1 61 1) + 1)); (((-10) - (fX4_wrong_1_9 st (120 + (4 * x2)))), st4))))
set_option maxHeartbeats 4000000 in
set_option maxRecDepth 100000 in
theorem kX4_back_1 (l : Launch) (D : va_G) (ca : Nat → ClassId) (ad : ow_Ad) (A : Nat → Prop) (st : ow_St) (x2 : Int32) (hmz1 : iv_mz st 1) : Met l yX4_back wsX4_back ({ frames := 2, cells := 0, slots := 0, locals := 46 }) (va_Pc [.ref (ad 10 0), .int 1, .int x2] (ow_W D ca ad A st)) (va_Qi (fun r st' => (r, st') = (fX4_back_1 st x2)) (ow_B D ca ad) A) 0 0 A := by
  refine Met.ofW (cc := cX4_back) (maxL := 5) (ret := (some .int)) (by decide) rfl ?_
  intro p e s m args below meth c s₁ B hml hv
  obtain ⟨rfl, hP, hC⟩ := hv
  have hx := B.exec
  have hb := B.bytes
  have hr := B.returns
  have hts := atoms_spec (ws := wsX4_back) B.pre
  have hown : s.vm.findClass RX4 = some m.cls := findClass_of_methodNamed B.named
  have hlocks := B.notSynchronized
  have hS : va_S A s.heap s.heap [] := va_S.rf
  have hl := lv_entry ([.ref (ad 10 0), .int 1, .int x2]) (n := 5) (Nat.le_of_ble_eq_true rfl)
  rw [lg_entry_eq]
  generalize (lg_sl ([.ref (ad 10 0), .int 1, .int x2]) ++ List.replicate (5 - (lg_sl ([.ref (ad 10 0), .int 1, .int x2])).length) Slot.unset).toArray = ls at hl ⊢
  have hl : lv_has ls 5 [(0, .ref (ad 10 0)), (1, .int 1), (2, .int x2)] := hl
  refine lv_aload_n hx hb dX4_back_0 rfl (lv_at hl 0 rfl) ?_
  refine lv_iload_n hx hb dX4_back_1 rfl (lv_at hl 1 rfl) ?_
  refine lv_iload_n hx hb dX4_back_2 rfl (lv_at hl 2 rfl) ?_
  refine lv_iconst (v := 0) hx hb dX4_back_3 (by decide) ?_
  refine og_ciP (og_runV (C := RX4) (T := TX4) (N := 19) (g := 10) (i := 0) (As := [.int 1, .int x2, .int 0]) (rest := []) ⟨hx, hb, hml, hown, hts⟩ (kX4_isCell_1 l D ca ad A st x2 0) (cwV 3 hts gX4_back_X4_isCell rfl rfl rfl (by decide +kernel) ⟨Nat.le_of_ble_eq_true rfl, Nat.le_of_ble_eq_true rfl⟩) hC hP hS (ow_q10_0) rfl rfl rfl hl.1 rfl (Nat.le_of_ble_eq_true rfl) dX4_back_4 ⟨Nat.zero_le _, Nat.zero_le _⟩) hS (fun H locs hP hS => ?_)
  refine lv_if_ne (tgt := 12) hx hb dX4_back_7 (by decide) (fun c_1 => ?_) (fun c_1 => ?_)
  · refine lv_bipush (v := 120) hx hb dX4_back_12 (by decide) ?_
    refine lv_iload_n hx hb dX4_back_14 rfl (lv_at hl 1 rfl) ?_
    refine lv_imul hx hb dX4_back_15 ?_
    rw [show (120 : Int32) * 1 = (120 : Int32) from rfl]
    refine lv_iconst (v := 4) hx hb dX4_back_16 (by decide) ?_
    refine lv_iload_n hx hb dX4_back_17 rfl (lv_at hl 2 rfl) ?_
    refine lv_imul hx hb dX4_back_18 ?_
    refine lv_iadd hx hb dX4_back_19 ?_
    refine lv_istore_n (lv' := [(3, .int (120 + (4 * x2))), (0, .ref (ad 10 0)), (1, .int 1), (2, .int x2)]) hx hb dX4_back_20 rfl hl (by decide) rfl (fun ls hl => ?_)
    refine lv_aload_n hx hb dX4_back_21 rfl (lv_at hl 1 rfl) ?_
    refine lv_iload_n hx hb dX4_back_22 rfl (lv_at hl 2 rfl) ?_
    refine lv_aload_n hx hb dX4_back_23 rfl (lv_at hl 1 rfl) ?_
    refine og_get (C := RX4) (T := TX4) (N := 19) (g := 10) (i := 0) (v := .ref (ad 11 9)) hx hb hts li_X4_back_1_X4 hown hC hP (ow_q10_0) rfl rfl 12 (by decide) (hts _ lk_X4_back_1_1) rfl rfl dX4_back_24 ?_
    refine lv_iload_n hx hb dX4_back_27 rfl (lv_at hl 0 rfl) ?_
    refine og_ciP (og_runV (C := RX4) (T := TX4) (N := 19) (g := 10) (i := 0) (As := [.int 1, .ref (ad 11 9), .int (120 + (4 * x2))]) (rest := []) ⟨hx, hb, hml, hown, hts⟩ (kX4_wrong_1_9 l D ca ad A st (120 + (4 * x2)) (rcx_1 hmz1 c_1)) (cwV 3 hts gX4_back_X4_wrong rfl rfl rfl (by decide +kernel) ⟨Nat.le_of_ble_eq_true rfl, Nat.le_of_ble_eq_true rfl⟩) hC hP hS (ow_q10_0) rfl rfl rfl hl.1 rfl (Nat.le_of_ble_eq_true rfl) dX4_back_28 ⟨Nat.zero_le _, Nat.zero_le _⟩) hS (fun H locs hP hS => ?_)
    refine lv_istore (lv' := [(4, .int (fX4_wrong_1_9 st (120 + (4 * x2)))), (3, .int (120 + (4 * x2))), (0, .ref (ad 10 0)), (1, .int 1), (2, .int x2)]) hx hb dX4_back_31 hl (by decide) rfl (fun ls hl => ?_)
    refine lv_iload hx hb dX4_back_33 (lv_at hl 0 rfl) ?_
    refine lv_bipush (v := (-4)) hx hb dX4_back_35 (by decide) ?_
    refine lv_icmp_eq (tgt := 56) hx hb dX4_back_37 (by decide) (fun c_2 => ?_) (fun c_2 => ?_)
    · refine lv_aload_n hx hb dX4_back_56 rfl (lv_at hl 2 rfl) ?_
      refine lv_iload_n hx hb dX4_back_57 rfl (lv_at hl 3 rfl) ?_
      refine lv_aload_n hx hb dX4_back_58 rfl (lv_at hl 2 rfl) ?_
      refine og_get (C := RX4) (T := TX4) (N := 19) (g := 10) (i := 0) (v := .ref (ad 11 9)) hx hb hts li_X4_back_1_X4 hown hC hP (ow_q10_0) rfl rfl 12 (by decide) (hts _ lk_X4_back_1_1) rfl rfl dX4_back_59 ?_
      refine lv_iload_n hx hb dX4_back_62 rfl (lv_at hl 1 rfl) ?_
      refine og_cvW (og_runV (C := RX4) (T := TX4) (N := 19) (g := 10) (i := 0) (As := [.int 1, .ref (ad 11 9), .int (120 + (4 * x2))]) (rest := []) ⟨hx, hb, hml, hown, hts⟩ (kX4_take_9 l D ca ad A st 1 (120 + (4 * x2)) (rcx_1 hmz1 c_1)) (cwV 3 hts gX4_back_X4_take rfl rfl rfl (by decide +kernel) ⟨Nat.le_of_ble_eq_true rfl, Nat.le_of_ble_eq_true rfl⟩) hC hP hS (ow_q10_0) rfl rfl rfl hl.1 rfl (Nat.le_of_ble_eq_true rfl) dX4_back_63 ⟨Nat.zero_le _, Nat.zero_le _⟩) hS (fun H locs hP hS => ?_)
      obtain ⟨st3, e3⟩ : ∃ z, z = (fX4_take_9 st 1 (120 + (4 * x2))) := ⟨_, rfl⟩
      rw [← e3] at hP
      refine lv_iconst (v := 1) hx hb dX4_back_66 (by decide) ?_
      exact W.iret (v := 1) hx hb hr (fun t ht hW => ⟨⟨1, st3, rfl, (by subst e3; simp only [fX4_back_1, if_neg c_1, if_pos c_2]), ow_Bi ht hP⟩, hS.F ht⟩) hS.2.2 dX4_back_67
    · refine lv_aload_n hx hb dX4_back_40 rfl (lv_at hl 2 rfl) ?_
      refine lv_dup hx hb dX4_back_41 rfl ?_
      refine og_get (C := RX4) (T := TX4) (N := 19) (g := 10) (i := 0) (v := .int (st.1 61 1)) hx hb hts li_X4_back_1_X4 hown hC hP (ow_q10_0) rfl rfl 8 (by decide) (hts _ lk_X4_back_1_2) rfl rfl dX4_back_42 ?_
      refine lv_iconst (v := 1) hx hb dX4_back_45 (by decide) ?_
      refine lv_iadd hx hb dX4_back_46 ?_
      refine og_put (C := RX4) (T := TX4) (N := 19) (g := 10) (i := 0) (v := .int ((st.1 61 1) + 1)) (ty := .int) hx hb hts li_X4_back_1_X4 tyX4 tyX4_ok nmX4 hown hC hP hS (ow_q10_0) rfl rfl 8 (by decide) (hts _ lk_X4_back_1_2) rfl rfl (by decide +kernel) rfl rfl (Nat.le_of_ble_eq_true rfl) (we_10_1 st ((st.1 61 1) + 1)) dX4_back_47 (fun H locs hP hS => ?_)
      obtain ⟨st4, e4⟩ : ∃ z, z = (ow_si st 61 1 ((st.1 61 1) + 1)) := ⟨_, rfl⟩
      rw [← e4] at hP
      refine lv_bipush (v := (-10)) hx hb dX4_back_50 (by decide) ?_
      refine lv_iload hx hb dX4_back_52 (lv_at hl 0 rfl) ?_
      refine lv_isub hx hb dX4_back_54 ?_
      exact W.iret (v := ((-10) - (fX4_wrong_1_9 st (120 + (4 * x2))))) hx hb hr (fun t ht hW => ⟨⟨((-10) - (fX4_wrong_1_9 st (120 + (4 * x2)))), st4, rfl, (by subst e4; simp only [fX4_back_1, if_neg c_1, if_neg c_2]), ow_Bi ht hP⟩, hS.F ht⟩) hS.2.2 dX4_back_55
  · refine lv_iconst (v := (-1)) hx hb dX4_back_10 (by decide) ?_
    exact W.iret (v := (-1)) hx hb hr (fun t ht hW => ⟨⟨(-1), st, rfl, (by simp only [fX4_back_1, if_pos c_1]), ow_Bi ht hP⟩, hS.F ht⟩) hS.2.2 dX4_back_11

theorem li_X4_part_1_X4 : ∀ w ∈ u_ws RX4 TX4 19, w ∈ wsX4_part := by decide +kernel
theorem lk_X4_part_1_1 : (.fieldLink RX4 66 "RecordLabelsModel" "latest" "I" : Cond) ∈ wsX4_part := by decide +kernel
theorem lk_X4_part_1_2 : (.fieldLink RX4 70 "RecordLabelsModel" "parts" "[I" : Cond) ∈ wsX4_part := by decide +kernel
def fX4_part_1 (st : ow_St) (x1 : Int32) : Int32 := (if (fX4_isIn st x1 0 3) = 0 then (-4) else (fX4_toldOf_1 st x1 (st.1 58 x1.toNatClampNeg)))
set_option maxHeartbeats 4000000 in
set_option maxRecDepth 100000 in
theorem kX4_part_1 (l : Launch) (D : va_G) (ca : Nat → ClassId) (ad : ow_Ad) (A : Nat → Prop) (st : ow_St) (x1 : Int32) (hp : st.1 61 2 = 1) (h50 : cellok (st.1 58 0) 7) : Met l yX4_part wsX4_part ({ frames := 2, cells := 0, slots := 0, locals := 46 }) (va_Pc [.ref (ad 10 0), .int x1] (ow_W D ca ad A st)) (va_Qi (fun r st' => r = (fX4_part_1 st x1) ∧ st' = st) (ow_B D ca ad) A) 0 0 A := by
  refine Met.ofW (cc := cX4_part) (maxL := 2) (ret := (some .int)) (by decide) rfl ?_
  intro p e s m args below meth c s₁ B hml hv
  obtain ⟨rfl, hP, hC⟩ := hv
  have hx := B.exec
  have hb := B.bytes
  have hr := B.returns
  have hts := atoms_spec (ws := wsX4_part) B.pre
  have hown : s.vm.findClass RX4 = some m.cls := findClass_of_methodNamed B.named
  have hlocks := B.notSynchronized
  have hS : va_S A s.heap s.heap [] := va_S.rf
  have hl := lv_entry ([.ref (ad 10 0), .int x1]) (n := 2) (Nat.le_of_ble_eq_true rfl)
  rw [lg_entry_eq]
  generalize (lg_sl ([.ref (ad 10 0), .int x1]) ++ List.replicate (2 - (lg_sl ([.ref (ad 10 0), .int x1])).length) Slot.unset).toArray = ls at hl ⊢
  have hl : lv_has ls 2 [(0, .ref (ad 10 0)), (1, .int x1)] := hl
  refine lv_aload_n hx hb dX4_part_0 rfl (lv_at hl 0 rfl) ?_
  refine og_get (C := RX4) (T := TX4) (N := 19) (g := 10) (i := 0) (v := .int 1) hx hb hts li_X4_part_1_X4 hown hC hP (ow_q10_0) rfl rfl 13 (by decide) (hts _ lk_X4_part_1_1) rfl (by show some (Value.int (st.1 61 2)) = _; rw [hp]) dX4_part_1 ?_
  refine lv_bipush (v := (-4)) hx hb dX4_part_4 (by decide) ?_
  refine lv_icmp_eq (tgt := 26) hx hb dX4_part_6 (by decide) (fun c => absurd c (by decide)) (fun _ => ?_)
  refine lv_iload_n hx hb dX4_part_9 rfl (lv_at hl 1 rfl) ?_
  refine lv_iconst (v := 0) hx hb dX4_part_10 (by decide) ?_
  refine lv_aload_n hx hb dX4_part_11 rfl (lv_at hl 0 rfl) ?_
  refine og_get (C := RX4) (T := TX4) (N := 19) (g := 10) (i := 0) (v := .int 1) hx hb hts li_X4_part_1_X4 hown hC hP (ow_q10_0) rfl rfl 13 (by decide) (hts _ lk_X4_part_1_1) rfl (by show some (Value.int (st.1 61 2)) = _; rw [hp]) dX4_part_12 ?_
  refine og_ciP (F := 4) (og_runS (As := [.int 1]) (rest := [.int 0, .int x1]) ⟨hx, hb, hml, hown, hts⟩ (kX4_items_1 l D ca ad A st) (va_cwS 1 hts gX4_part_X4_items rfl rfl rfl (by decide +kernel) ⟨Nat.le_of_ble_eq_true rfl, Nat.le_of_ble_eq_true rfl⟩) hC hP hS rfl hl.1 rfl (Nat.le_of_ble_eq_true rfl) dX4_part_15 ⟨Nat.zero_le _, Nat.zero_le _⟩) hS (fun H locs hP hS => ?_)
  refine lv_iconst (v := 1) hx hb dX4_part_18 (by decide) ?_
  refine lv_isub hx hb dX4_part_19 ?_
  rw [show (4 : Int32) - 1 = (3 : Int32) from rfl]
  refine og_ciP (og_runS (As := [.int x1, .int 0, .int 3]) (rest := []) ⟨hx, hb, hml, hown, hts⟩ (kX4_isIn l D ca ad A st x1 0 3) (va_cwS 3 hts gX4_part_X4_isIn rfl rfl rfl (by decide +kernel) ⟨Nat.le_of_ble_eq_true rfl, Nat.le_of_ble_eq_true rfl⟩) hC hP hS rfl hl.1 rfl (Nat.le_of_ble_eq_true rfl) dX4_part_20 ⟨Nat.zero_le _, Nat.zero_le _⟩) hS (fun H locs hP hS => ?_)
  refine lv_if_ne (tgt := 31) hx hb dX4_part_23 (by decide) (fun c_1 => ?_) (fun c_1 => ?_)
  · refine lv_aload_n hx hb dX4_part_31 rfl (lv_at hl 0 rfl) ?_
    refine lv_aload_n hx hb dX4_part_32 rfl (lv_at hl 0 rfl) ?_
    refine og_get (C := RX4) (T := TX4) (N := 19) (g := 10) (i := 0) (v := .int 1) hx hb hts li_X4_part_1_X4 hown hC hP (ow_q10_0) rfl rfl 13 (by decide) (hts _ lk_X4_part_1_1) rfl (by show some (Value.int (st.1 61 2)) = _; rw [hp]) dX4_part_33 ?_
    refine lv_iload_n hx hb dX4_part_36 rfl (lv_at hl 1 rfl) ?_
    refine lv_aload_n hx hb dX4_part_37 rfl (lv_at hl 0 rfl) ?_
    refine og_get (C := RX4) (T := TX4) (N := 19) (g := 10) (i := 0) (v := .ref (ad 11 10)) hx hb hts li_X4_part_1_X4 hown hC hP (ow_q10_0) rfl rfl 14 (by decide) (hts _ lk_X4_part_1_2) rfl rfl dX4_part_38 ?_
    refine lv_iload_n hx hb dX4_part_41 rfl (lv_at hl 1 rfl) ?_
    refine og_iald (g := 11) (i := 10) (j := x1.toNatClampNeg) (v := (st.1 58 x1.toNatClampNeg)) hx hb hC hP (ow_q11_10) rfl (d_in (itx_1 c_1)) rfl rfl dX4_part_42 ?_
    refine og_ciP (og_runV (C := RX4) (T := TX4) (N := 19) (g := 10) (i := 0) (As := [.int 1, .int x1, .int (st.1 58 x1.toNatClampNeg)]) (rest := []) ⟨hx, hb, hml, hown, hts⟩ (kX4_toldOf_1 l D ca ad A st x1 (st.1 58 x1.toNatClampNeg) (fun q => by subst q; exact ck h50)) (cwV 3 hts gX4_part_X4_toldOf rfl rfl rfl (by decide +kernel) ⟨Nat.le_of_ble_eq_true rfl, Nat.le_of_ble_eq_true rfl⟩) hC hP hS (ow_q10_0) rfl rfl rfl hl.1 rfl (Nat.le_of_ble_eq_true rfl) dX4_part_43 ⟨Nat.zero_le _, Nat.zero_le _⟩) hS (fun H locs hP hS => ?_)
    exact W.iret (v := (fX4_toldOf_1 st x1 (st.1 58 x1.toNatClampNeg))) hx hb hr (fun t ht hW => ⟨⟨(fX4_toldOf_1 st x1 (st.1 58 x1.toNatClampNeg)), st, rfl, ⟨(by simp only [fX4_part_1, if_neg c_1]), rfl⟩, ow_Bi ht hP⟩, hS.F ht⟩) hS.2.2 dX4_part_46
  · refine lv_bipush (v := (-4)) hx hb dX4_part_26 (by decide) ?_
    refine lv_goto (tgt := 46) hx hb dX4_part_28 (by decide) ?_
    exact W.iret (v := (-4)) hx hb hr (fun t ht hW => ⟨⟨(-4), st, rfl, ⟨(by simp only [fX4_part_1, if_pos c_1]), rfl⟩, ow_Bi ht hP⟩, hS.F ht⟩) hS.2.2 dX4_part_46

theorem li_X4_filter_1_X4 : ∀ w ∈ u_ws RX4 TX4 19, w ∈ wsX4_filter := by decide +kernel
theorem lk_X4_filter_1_1 : (.fieldLink RX4 54 "RecordLabelsModel" "setKind" "[I" : Cond) ∈ wsX4_filter := by decide +kernel
theorem lk_X4_filter_1_2 : (.fieldLink RX4 168 "RecordLabelsModel" "finds" "I" : Cond) ∈ wsX4_filter := by decide +kernel
theorem lk_X4_filter_1_3 : (.fieldLink RX4 60 "RecordLabelsModel" "records" "[I" : Cond) ∈ wsX4_filter := by decide +kernel
theorem lk_X4_filter_1_4 : (.fieldLink RX4 63 "RecordLabelsModel" "cells" "[I" : Cond) ∈ wsX4_filter := by decide +kernel
theorem lk_X4_filter_1_5 : (.fieldLink RX4 57 "RecordLabelsModel" "held" "[I" : Cond) ∈ wsX4_filter := by decide +kernel
theorem lk_X4_filter_1_6 : (.fieldLink RX4 73 "RecordLabelsModel" "foundAt" "[I" : Cond) ∈ wsX4_filter := by decide +kernel
def flX4_filter_1 (x2 x3 x4 x5 : Int32) : Nat → Nat → ow_St → Int32 × ow_St
  | 0, _, sv => (0, sv)
  | n + 1, i, sv => (if (sv.1 56 1) ≤ (nI i) then ((sv.1 61 3), sv) else (if (fX4_wrong_1_9 sv (120 + (4 * (nI i)))) = (-4) then (if (((sv.1 55 x2.toNatClampNeg) >>> ((sv.1 57 ((120 + (4 * (nI i))).toNatClampNeg)) &&& 31)) &&& 1) = 1 then (if (fX4_isIn sv (fX4_toldOf_1 sv x3 (sv.1 57 (((120 + (4 * (nI i))) + x3).toNatClampNeg))) x4 x5) = 0 then (flX4_filter_1 x2 x3 x4 x5 n (i + 1)  sv) else (let st9 := (ow_si sv 59 ((sv.1 61 3).toNatClampNeg) (nI i)); (let st10 := (ow_si st9 61 3 ((st9.1 61 3) + 1)); (flX4_filter_1 x2 x3 x4 x5 n (i + 1)  st10)))) else (flX4_filter_1 x2 x3 x4 x5 n (i + 1)  sv)) else (flX4_filter_1 x2 x3 x4 x5 n (i + 1)  sv)))
def fX4_filter_1 (st : ow_St) (x2 x3 x4 x5 : Int32) : Int32 × ow_St := (if (fX4_isSet st x2) = 0 then ((-1), st) else (if (fX4_isIn st x3 1 3) = 0 then ((-1), st) else (if (st.1 54 x2.toNatClampNeg) = 1 then (let st4 := (ow_si st 61 3 0); (flX4_filter_1 x2 x3 x4 x5 (((st.1 56 1).toNatClampNeg) + 1) 0  st4)) else ((-3), st))))
set_option maxHeartbeats 4000000 in
set_option maxRecDepth 100000 in
theorem kX4_filter_1 (l : Launch) (D : va_G) (ca : Nat → ClassId) (ad : ow_Ad) (A : Nat → Prop) (st : ow_St) (x2 : Int32) (x3 : Int32) (x4 : Int32) (x5 : Int32) (hmz1 : iv_mz st 1) (hcl : iv_mcl st) : Met l yX4_filter wsX4_filter ({ frames := 2, cells := 0, slots := 0, locals := 46 }) (va_Pc [.ref (ad 10 0), .int 1, .int x2, .int x3, .int x4, .int x5] (ow_W D ca ad A st)) (va_Qi (fun r st' => (r, st') = (fX4_filter_1 st x2 x3 x4 x5)) (ow_B D ca ad) A) 0 0 A := by
  refine Met.ofW (cc := cX4_filter) (maxL := 8) (ret := (some .int)) (by decide) rfl ?_
  intro p e s m args below meth c s₁ B hml hv
  obtain ⟨rfl, hP, hC⟩ := hv
  have hx := B.exec
  have hb := B.bytes
  have hr := B.returns
  have hts := atoms_spec (ws := wsX4_filter) B.pre
  have hown : s.vm.findClass RX4 = some m.cls := findClass_of_methodNamed B.named
  have hlocks := B.notSynchronized
  have hS : va_S A s.heap s.heap [] := va_S.rf
  have hl := lv_entry ([.ref (ad 10 0), .int 1, .int x2, .int x3, .int x4, .int x5]) (n := 8) (Nat.le_of_ble_eq_true rfl)
  rw [lg_entry_eq]
  generalize (lg_sl ([.ref (ad 10 0), .int 1, .int x2, .int x3, .int x4, .int x5]) ++ List.replicate (8 - (lg_sl ([.ref (ad 10 0), .int 1, .int x2, .int x3, .int x4, .int x5])).length) Slot.unset).toArray = ls at hl ⊢
  have hl : lv_has ls 8 [(0, .ref (ad 10 0)), (1, .int 1), (2, .int x2), (3, .int x3), (4, .int x4), (5, .int x5)] := hl
  have hB30 : ((st.1 56 1).toNatClampNeg) ≤ 30 := (mz_nI hmz1).2
  refine lv_iload_n hx hb dX4_filter_0 rfl (lv_at hl 1 rfl) ?_
  refine og_ciP (og_runS (As := [.int 1]) (rest := []) ⟨hx, hb, hml, hown, hts⟩ (kX4_isTable l D ca ad A st 1) (va_cwS 1 hts gX4_filter_X4_isTable rfl rfl rfl (by decide +kernel) ⟨Nat.le_of_ble_eq_true rfl, Nat.le_of_ble_eq_true rfl⟩) hC hP hS rfl hl.1 rfl (Nat.le_of_ble_eq_true rfl) dX4_filter_1 ⟨Nat.zero_le _, Nat.zero_le _⟩) hS (fun H locs hP hS => ?_)
  refine lv_if_eq (tgt := 28) hx hb dX4_filter_4 (by decide) (fun c => absurd c isT_1) (fun _ => ?_)
  refine lv_iload_n hx hb dX4_filter_7 rfl (lv_at hl 2 rfl) ?_
  refine og_ciP (og_runS (As := [.int x2]) (rest := []) ⟨hx, hb, hml, hown, hts⟩ (kX4_isSet l D ca ad A st x2) (va_cwS 1 hts gX4_filter_X4_isSet rfl rfl rfl (by decide +kernel) ⟨Nat.le_of_ble_eq_true rfl, Nat.le_of_ble_eq_true rfl⟩) hC hP hS rfl hl.1 rfl (Nat.le_of_ble_eq_true rfl) dX4_filter_8 ⟨Nat.zero_le _, Nat.zero_le _⟩) hS (fun H locs hP hS => ?_)
  refine lv_if_eq (tgt := 28) hx hb dX4_filter_11 (by decide) (fun c_1 => ?_) (fun c_1 => ?_)
  · refine lv_iconst (v := (-1)) hx hb dX4_filter_28 (by decide) ?_
    exact W.iret (v := (-1)) hx hb hr (fun t ht hW => ⟨⟨(-1), st, rfl, (by simp only [fX4_filter_1, if_pos c_1]), ow_Bi ht hP⟩, hS.F ht⟩) hS.2.2 dX4_filter_29
  · refine lv_iload_n hx hb dX4_filter_14 rfl (lv_at hl 3 rfl) ?_
    refine lv_iconst (v := 1) hx hb dX4_filter_15 (by decide) ?_
    refine lv_iload_n hx hb dX4_filter_16 rfl (lv_at hl 1 rfl) ?_
    refine og_ciP (F := 4) (og_runS (As := [.int 1]) (rest := [.int 1, .int x3]) ⟨hx, hb, hml, hown, hts⟩ (kX4_items_1 l D ca ad A st) (va_cwS 1 hts gX4_filter_X4_items rfl rfl rfl (by decide +kernel) ⟨Nat.le_of_ble_eq_true rfl, Nat.le_of_ble_eq_true rfl⟩) hC hP hS rfl hl.1 rfl (Nat.le_of_ble_eq_true rfl) dX4_filter_17 ⟨Nat.zero_le _, Nat.zero_le _⟩) hS (fun H locs hP hS => ?_)
    refine lv_iconst (v := 1) hx hb dX4_filter_20 (by decide) ?_
    refine lv_isub hx hb dX4_filter_21 ?_
    rw [show (4 : Int32) - 1 = (3 : Int32) from rfl]
    refine og_ciP (og_runS (As := [.int x3, .int 1, .int 3]) (rest := []) ⟨hx, hb, hml, hown, hts⟩ (kX4_isIn l D ca ad A st x3 1 3) (va_cwS 3 hts gX4_filter_X4_isIn rfl rfl rfl (by decide +kernel) ⟨Nat.le_of_ble_eq_true rfl, Nat.le_of_ble_eq_true rfl⟩) hC hP hS rfl hl.1 rfl (Nat.le_of_ble_eq_true rfl) dX4_filter_22 ⟨Nat.zero_le _, Nat.zero_le _⟩) hS (fun H locs hP hS => ?_)
    refine lv_if_ne (tgt := 30) hx hb dX4_filter_25 (by decide) (fun c_2 => ?_) (fun c_2 => ?_)
    · refine lv_aload_n hx hb dX4_filter_30 rfl (lv_at hl 0 rfl) ?_
      refine og_get (C := RX4) (T := TX4) (N := 19) (g := 10) (i := 0) (v := .ref (ad 11 6)) hx hb hts li_X4_filter_1_X4 hown hC hP (ow_q10_0) rfl rfl 9 (by decide) (hts _ lk_X4_filter_1_1) rfl rfl dX4_filter_31 ?_
      refine lv_iload_n hx hb dX4_filter_34 rfl (lv_at hl 2 rfl) ?_
      refine og_iald (g := 11) (i := 6) (j := x2.toNatClampNeg) (v := (st.1 54 x2.toNatClampNeg)) hx hb hC hP (ow_q11_6) rfl (isS_in c_1) rfl rfl dX4_filter_35 ?_
      refine lv_iload_n hx hb dX4_filter_36 rfl (lv_at hl 1 rfl) ?_
      refine lv_icmp_eq (tgt := 43) hx hb dX4_filter_37 (by decide) (fun c_3 => ?_) (fun c_3 => ?_)
      · refine lv_aload_n hx hb dX4_filter_43 rfl (lv_at hl 0 rfl) ?_
        refine lv_iconst (v := 0) hx hb dX4_filter_44 (by decide) ?_
        refine og_put (C := RX4) (T := TX4) (N := 19) (g := 10) (i := 0) (v := .int 0) (ty := .int) hx hb hts li_X4_filter_1_X4 tyX4 tyX4_ok nmX4 hown hC hP hS (ow_q10_0) rfl rfl 15 (by decide) (hts _ lk_X4_filter_1_2) rfl rfl (by decide +kernel) rfl rfl (Nat.le_of_ble_eq_true rfl) (we_10_3 st 0) dX4_filter_45 (fun H locs hP hS => ?_)
        obtain ⟨st4, e4⟩ : ∃ z, z = (ow_si st 61 3 0) := ⟨_, rfl⟩
        rw [← e4] at hP
        refine lv_iconst (v := 0) hx hb dX4_filter_48 (by decide) ?_
        refine lv_istore (lv' := [(6, .int 0), (0, .ref (ad 10 0)), (1, .int 1), (2, .int x2), (3, .int x3), (4, .int x4), (5, .int x5)]) hx hb dX4_filter_49 hl (by decide) rfl (fun ls hl => ?_)
        have loop : ∀ (n i : Nat) (sv : ow_St) (H : Heap) (locs : List Loc) (ls : Array Slot), i ≤ ((st.1 56 1).toNatClampNeg) → ((st.1 56 1).toNatClampNeg) < i + n → (sv.1 56 1 = nI ((st.1 56 1).toNatClampNeg)) → (sv.1 57 = st.1 57) → (∃ m, m ≤ i ∧ sv.1 61 3 = nI m) → flX4_filter_1 x2 x3 x4 x5 n i sv = (fX4_filter_1 st x2 x3 x4 x5) → va_P D vwCl (ow_ws ad (ow_c ca ad sv)) H → va_S A s.heap H locs → lv_has ls 8 [(6, .int (nI i)), (0, .ref (ad 10 0)), (1, .int 1), (2, .int x2), (3, .int x3), (4, .int x4), (5, .int x5)] → W p l e (headSpec wsX4_filter ({ frames := 2, cells := 0, slots := 0, locals := 46 } : Room)).room s m ([.ref (ad 10 0), .int 1, .int x2, .int x3, .int x4, .int x5] : List Value).toArray below meth c H locs 0 0 (MQ below (va_Qi (fun r st' => (r, st') = (fX4_filter_1 st x2 x3 x4 x5)) (ow_B D ca ad) A) ([.ref (ad 10 0), .int 1, .int x2, .int x3, .int x4, .int x5] : List Value).toArray s 0 0 A) (F0 m 51 ls []) := by
          intro n
          induction n with
          | zero => intro i sv H locs ls h1 h2; exact absurd h2 (by omega)
          | succ n ih =>
            intro i sv H locs ls hle hlt hB hV hM heq hP hS hl
            refine lv_iload hx hb dX4_filter_51 (lv_at hl 0 rfl) ?_
            refine lv_aload_n hx hb dX4_filter_53 rfl (lv_at hl 1 rfl) ?_
            refine og_get (C := RX4) (T := TX4) (N := 19) (g := 10) (i := 0) (v := .ref (ad 11 8)) hx hb hts li_X4_filter_1_X4 hown hC hP (ow_q10_0) rfl rfl 11 (by decide) (hts _ lk_X4_filter_1_3) rfl rfl dX4_filter_54 ?_
            refine lv_iload_n hx hb dX4_filter_57 rfl (lv_at hl 2 rfl) ?_
            refine og_iald (g := 11) (i := 8) (j := 1) (v := (sv.1 56 1)) hx hb hC hP (ow_q11_8) rfl (by unfold vp_in; decide) rfl rfl dX4_filter_58 ?_
            refine lv_icmp_ge (tgt := 161) hx hb dX4_filter_59 (by decide) (fun c_5 => ?_) (fun c_5 => ?_)
            · refine lv_aload_n hx hb dX4_filter_161 rfl (lv_at hl 1 rfl) ?_
              refine og_get (C := RX4) (T := TX4) (N := 19) (g := 10) (i := 0) (v := .int (sv.1 61 3)) hx hb hts li_X4_filter_1_X4 hown hC hP (ow_q10_0) rfl rfl 15 (by decide) (hts _ lk_X4_filter_1_2) rfl rfl dX4_filter_162 ?_
              exact W.iret (v := (sv.1 61 3)) hx hb hr (fun t ht hW => ⟨⟨(sv.1 61 3), sv, rfl, (by rw [← heq]; simp only [flX4_filter_1, if_pos c_5]), ow_Bi ht hP⟩, hS.F ht⟩) hS.2.2 dX4_filter_165
            · refine lv_bipush (v := 120) hx hb dX4_filter_62 (by decide) ?_
              refine lv_iload_n hx hb dX4_filter_64 rfl (lv_at hl 2 rfl) ?_
              refine lv_imul hx hb dX4_filter_65 ?_
              rw [show (120 : Int32) * 1 = (120 : Int32) from rfl]
              refine lv_iconst (v := 4) hx hb dX4_filter_66 (by decide) ?_
              refine lv_iload hx hb dX4_filter_67 (lv_at hl 0 rfl) ?_
              refine lv_imul hx hb dX4_filter_69 ?_
              refine lv_iadd hx hb dX4_filter_70 ?_
              refine lv_istore (lv' := [(7, .int (120 + (4 * (nI i)))), (6, .int (nI i)), (0, .ref (ad 10 0)), (1, .int 1), (2, .int x2), (3, .int x3), (4, .int x4), (5, .int x5)]) hx hb dX4_filter_71 hl (by decide) rfl (fun ls hl => ?_)
              refine lv_aload_n hx hb dX4_filter_73 rfl (lv_at hl 2 rfl) ?_
              refine lv_iload_n hx hb dX4_filter_74 rfl (lv_at hl 3 rfl) ?_
              refine lv_aload_n hx hb dX4_filter_75 rfl (lv_at hl 2 rfl) ?_
              refine og_get (C := RX4) (T := TX4) (N := 19) (g := 10) (i := 0) (v := .ref (ad 11 9)) hx hb hts li_X4_filter_1_X4 hown hC hP (ow_q10_0) rfl rfl 12 (by decide) (hts _ lk_X4_filter_1_4) rfl rfl dX4_filter_76 ?_
              refine lv_iload hx hb dX4_filter_79 (lv_at hl 0 rfl) ?_
              refine og_ciP (og_runV (C := RX4) (T := TX4) (N := 19) (g := 10) (i := 0) (As := [.int 1, .ref (ad 11 9), .int (120 + (4 * (nI i)))]) (rest := []) ⟨hx, hb, hml, hown, hts⟩ (kX4_wrong_1_9 l D ca ad A sv (120 + (4 * (nI i))) (at_1 ⟨i, Nat.lt_of_lt_of_le (ow_lt (by rw [← hB]; exact c_5) hle (by omega)) hB30, rfl⟩)) (cwV 3 hts gX4_filter_X4_wrong rfl rfl rfl (by decide +kernel) ⟨Nat.le_of_ble_eq_true rfl, Nat.le_of_ble_eq_true rfl⟩) hC hP hS (ow_q10_0) rfl rfl rfl hl.1 rfl (Nat.le_of_ble_eq_true rfl) dX4_filter_81 ⟨Nat.zero_le _, Nat.zero_le _⟩) hS (fun H locs hP hS => ?_)
              refine lv_bipush (v := (-4)) hx hb dX4_filter_84 (by decide) ?_
              refine lv_icmp_ne (tgt := 155) hx hb dX4_filter_86 (by decide) (fun c_6 => ?_) (fun c_6 => ?_)
              · refine lv_iinc (v := (nI (i + 1))) (lv' := [(6, .int (nI (i + 1))), (7, .int (120 + (4 * (nI i)))), (0, .ref (ad 10 0)), (1, .int 1), (2, .int x2), (3, .int x3), (4, .int x4), (5, .int x5)]) hx hb dX4_filter_155 hl (k := 1) rfl (nI_1 _) (by decide) rfl (fun ls hl => ?_)
                refine lv_goto (tgt := 51) hx hb dX4_filter_158 (by decide) ?_
                exact ih (i + 1)  sv _ _ _ (ow_lt (by rw [← hB]; exact c_5) hle (by omega)) (by omega) (by exact hB) (by exact hV) (by obtain ⟨m, hm, em⟩ := hM; exact ⟨m, by omega, em⟩) (by rw [← heq]; simp only [flX4_filter_1, if_neg c_5, if_neg c_6]) hP hS (lv_sub hl [0, 2, 3, 4, 5, 6, 7] rfl)
              · refine lv_aload_n hx hb dX4_filter_89 rfl (lv_at hl 2 rfl) ?_
                refine og_get (C := RX4) (T := TX4) (N := 19) (g := 10) (i := 0) (v := .ref (ad 11 7)) hx hb hts li_X4_filter_1_X4 hown hC hP (ow_q10_0) rfl rfl 10 (by decide) (hts _ lk_X4_filter_1_5) rfl rfl dX4_filter_90 ?_
                refine lv_iload_n hx hb dX4_filter_93 rfl (lv_at hl 4 rfl) ?_
                refine og_iald (g := 11) (i := 7) (j := x2.toNatClampNeg) (v := (sv.1 55 x2.toNatClampNeg)) hx hb hC hP (ow_q11_7) rfl (isS_in c_1) rfl rfl dX4_filter_94 ?_
                refine lv_aload_n hx hb dX4_filter_95 rfl (lv_at hl 2 rfl) ?_
                refine og_get (C := RX4) (T := TX4) (N := 19) (g := 10) (i := 0) (v := .ref (ad 11 9)) hx hb hts li_X4_filter_1_X4 hown hC hP (ow_q10_0) rfl rfl 12 (by decide) (hts _ lk_X4_filter_1_4) rfl rfl dX4_filter_96 ?_
                refine lv_iload hx hb dX4_filter_99 (lv_at hl 0 rfl) ?_
                refine og_iald (g := 11) (i := 9) (j := ((120 + (4 * (nI i))).toNatClampNeg)) (v := (sv.1 57 ((120 + (4 * (nI i))).toNatClampNeg))) hx hb hC hP (ow_q11_9) rfl (at_in0 (at_1 ⟨i, Nat.lt_of_lt_of_le (ow_lt (by rw [← hB]; exact c_5) hle (by omega)) hB30, rfl⟩)) rfl rfl dX4_filter_101 ?_
                refine lv_ishr hx hb dX4_filter_102 ?_
                refine lv_iconst (v := 1) hx hb dX4_filter_103 (by decide) ?_
                refine lv_iand hx hb dX4_filter_104 ?_
                refine lv_iconst (v := 1) hx hb dX4_filter_105 (by decide) ?_
                refine lv_icmp_ne (tgt := 155) hx hb dX4_filter_106 (by decide) (fun c_7 => ?_) (fun c_7 => ?_)
                · refine lv_iinc (v := (nI (i + 1))) (lv' := [(6, .int (nI (i + 1))), (7, .int (120 + (4 * (nI i)))), (0, .ref (ad 10 0)), (1, .int 1), (2, .int x2), (3, .int x3), (4, .int x4), (5, .int x5)]) hx hb dX4_filter_155 hl (k := 1) rfl (nI_1 _) (by decide) rfl (fun ls hl => ?_)
                  refine lv_goto (tgt := 51) hx hb dX4_filter_158 (by decide) ?_
                  exact ih (i + 1)  sv _ _ _ (ow_lt (by rw [← hB]; exact c_5) hle (by omega)) (by omega) (by exact hB) (by exact hV) (by obtain ⟨m, hm, em⟩ := hM; exact ⟨m, by omega, em⟩) (by rw [← heq]; simp only [flX4_filter_1, if_neg c_5, if_pos c_6, if_neg c_7]) hP hS (lv_sub hl [0, 2, 3, 4, 5, 6, 7] rfl)
                · refine lv_aload_n hx hb dX4_filter_109 rfl (lv_at hl 2 rfl) ?_
                  refine lv_iload_n hx hb dX4_filter_110 rfl (lv_at hl 3 rfl) ?_
                  refine lv_iload_n hx hb dX4_filter_111 rfl (lv_at hl 5 rfl) ?_
                  refine lv_aload_n hx hb dX4_filter_112 rfl (lv_at hl 2 rfl) ?_
                  refine og_get (C := RX4) (T := TX4) (N := 19) (g := 10) (i := 0) (v := .ref (ad 11 9)) hx hb hts li_X4_filter_1_X4 hown hC hP (ow_q10_0) rfl rfl 12 (by decide) (hts _ lk_X4_filter_1_4) rfl rfl dX4_filter_113 ?_
                  refine lv_iload hx hb dX4_filter_116 (lv_at hl 0 rfl) ?_
                  refine lv_iload_n hx hb dX4_filter_118 rfl (lv_at hl 5 rfl) ?_
                  refine lv_iadd hx hb dX4_filter_119 ?_
                  refine og_iald (g := 11) (i := 9) (j := (((120 + (4 * (nI i))) + x3).toNatClampNeg)) (v := (sv.1 57 (((120 + (4 * (nI i))) + x3).toNatClampNeg))) hx hb hC hP (ow_q11_9) rfl (at_inx (at_1 ⟨i, Nat.lt_of_lt_of_le (ow_lt (by rw [← hB]; exact c_5) hle (by omega)) hB30, rfl⟩) (itz (n := 3) rfl (by decide) c_2).1) rfl rfl dX4_filter_120 ?_
                  refine og_ciP (og_runV (C := RX4) (T := TX4) (N := 19) (g := 10) (i := 0) (As := [.int 1, .int x3, .int (sv.1 57 (((120 + (4 * (nI i))) + x3).toNatClampNeg))]) (rest := []) ⟨hx, hb, hml, hown, hts⟩ (kX4_toldOf_1 l D ca ad A sv x3 (sv.1 57 (((120 + (4 * (nI i))) + x3).toNatClampNeg)) (fun q => absurd q (itz (n := 3) rfl (by decide) c_2).2)) (cwV 3 hts gX4_filter_X4_toldOf rfl rfl rfl (by decide +kernel) ⟨Nat.le_of_ble_eq_true rfl, Nat.le_of_ble_eq_true rfl⟩) hC hP hS (ow_q10_0) rfl rfl rfl hl.1 rfl (Nat.le_of_ble_eq_true rfl) dX4_filter_121 ⟨Nat.zero_le _, Nat.zero_le _⟩) hS (fun H locs hP hS => ?_)
                  refine lv_iload hx hb dX4_filter_124 (lv_at hl 6 rfl) ?_
                  refine lv_iload hx hb dX4_filter_126 (lv_at hl 7 rfl) ?_
                  refine og_ciP (og_runS (As := [.int (fX4_toldOf_1 sv x3 (sv.1 57 (((120 + (4 * (nI i))) + x3).toNatClampNeg))), .int x4, .int x5]) (rest := []) ⟨hx, hb, hml, hown, hts⟩ (kX4_isIn l D ca ad A sv (fX4_toldOf_1 sv x3 (sv.1 57 (((120 + (4 * (nI i))) + x3).toNatClampNeg))) x4 x5) (va_cwS 3 hts gX4_filter_X4_isIn rfl rfl rfl (by decide +kernel) ⟨Nat.le_of_ble_eq_true rfl, Nat.le_of_ble_eq_true rfl⟩) hC hP hS rfl hl.1 rfl (Nat.le_of_ble_eq_true rfl) dX4_filter_128 ⟨Nat.zero_le _, Nat.zero_le _⟩) hS (fun H locs hP hS => ?_)
                  refine lv_if_eq (tgt := 155) hx hb dX4_filter_131 (by decide) (fun c_8 => ?_) (fun c_8 => ?_)
                  · refine lv_iinc (v := (nI (i + 1))) (lv' := [(6, .int (nI (i + 1))), (7, .int (120 + (4 * (nI i)))), (0, .ref (ad 10 0)), (1, .int 1), (2, .int x2), (3, .int x3), (4, .int x4), (5, .int x5)]) hx hb dX4_filter_155 hl (k := 1) rfl (nI_1 _) (by decide) rfl (fun ls hl => ?_)
                    refine lv_goto (tgt := 51) hx hb dX4_filter_158 (by decide) ?_
                    exact ih (i + 1)  sv _ _ _ (ow_lt (by rw [← hB]; exact c_5) hle (by omega)) (by omega) (by exact hB) (by exact hV) (by obtain ⟨m, hm, em⟩ := hM; exact ⟨m, by omega, em⟩) (by rw [← heq]; simp only [flX4_filter_1, if_neg c_5, if_pos c_6, if_pos c_7, if_pos c_8]) hP hS (lv_sub hl [0, 2, 3, 4, 5, 6, 7] rfl)
                  · refine lv_aload_n hx hb dX4_filter_134 rfl (lv_at hl 2 rfl) ?_
                    refine og_get (C := RX4) (T := TX4) (N := 19) (g := 10) (i := 0) (v := .ref (ad 11 11)) hx hb hts li_X4_filter_1_X4 hown hC hP (ow_q10_0) rfl rfl 16 (by decide) (hts _ lk_X4_filter_1_6) rfl rfl dX4_filter_135 ?_
                    refine lv_aload_n hx hb dX4_filter_138 rfl (lv_at hl 2 rfl) ?_
                    refine og_get (C := RX4) (T := TX4) (N := 19) (g := 10) (i := 0) (v := .int (sv.1 61 3)) hx hb hts li_X4_filter_1_X4 hown hC hP (ow_q10_0) rfl rfl 15 (by decide) (hts _ lk_X4_filter_1_2) rfl rfl dX4_filter_139 ?_
                    refine lv_iload hx hb dX4_filter_142 (lv_at hl 1 rfl) ?_
                    refine og_iast (g := 11) (i := 11) (j := ((sv.1 61 3).toNatClampNeg)) (v := (nI i)) hx hb hC hP hS (ow_q11_11) rfl (by have h9 := (ow_lt (by rw [← hB]; exact c_5) hle (by omega)); obtain ⟨m, hm, em⟩ := hM; rw [em]; exact vp_in_nI (by omega) (by decide)) rfl (we_11_11 sv ((sv.1 61 3).toNatClampNeg) (nI i)) dX4_filter_144 (fun H locs hP hS => ?_)
                    obtain ⟨st9, e9⟩ : ∃ z, z = (ow_si sv 59 ((sv.1 61 3).toNatClampNeg) (nI i)) := ⟨_, rfl⟩
                    rw [← e9] at hP
                    refine lv_aload_n hx hb dX4_filter_145 rfl (lv_at hl 2 rfl) ?_
                    refine lv_dup hx hb dX4_filter_146 rfl ?_
                    refine og_get (C := RX4) (T := TX4) (N := 19) (g := 10) (i := 0) (v := .int (st9.1 61 3)) hx hb hts li_X4_filter_1_X4 hown hC hP (ow_q10_0) rfl rfl 15 (by decide) (hts _ lk_X4_filter_1_2) rfl rfl dX4_filter_147 ?_
                    refine lv_iconst (v := 1) hx hb dX4_filter_150 (by decide) ?_
                    refine lv_iadd hx hb dX4_filter_151 ?_
                    refine og_put (C := RX4) (T := TX4) (N := 19) (g := 10) (i := 0) (v := .int ((st9.1 61 3) + 1)) (ty := .int) hx hb hts li_X4_filter_1_X4 tyX4 tyX4_ok nmX4 hown hC hP hS (ow_q10_0) rfl rfl 15 (by decide) (hts _ lk_X4_filter_1_2) rfl rfl (by decide +kernel) rfl rfl (Nat.le_of_ble_eq_true rfl) (we_10_3 st9 ((st9.1 61 3) + 1)) dX4_filter_152 (fun H locs hP hS => ?_)
                    obtain ⟨st10, e10⟩ : ∃ z, z = (ow_si st9 61 3 ((st9.1 61 3) + 1)) := ⟨_, rfl⟩
                    rw [← e10] at hP
                    refine lv_iinc (v := (nI (i + 1))) (lv' := [(6, .int (nI (i + 1))), (7, .int (120 + (4 * (nI i)))), (0, .ref (ad 10 0)), (1, .int 1), (2, .int x2), (3, .int x3), (4, .int x4), (5, .int x5)]) hx hb dX4_filter_155 hl (k := 1) rfl (nI_1 _) (by decide) rfl (fun ls hl => ?_)
                    refine lv_goto (tgt := 51) hx hb dX4_filter_158 (by decide) ?_
                    exact ih (i + 1)  st10 _ _ _ (ow_lt (by rw [← hB]; exact c_5) hle (by omega)) (by omega) (by subst e10; subst e9; simp (disch := decide) only [ow_si_ne]; exact hB) (by subst e10; subst e9; simp (disch := decide) only [ow_si_ne]; exact hV) (by subst e10; subst e9; obtain ⟨m, hm, em⟩ := hM; exact ⟨m + 1, by omega, by simp (disch := decide) only [ow_si_e, ow_si_ne, em, nI_1]⟩) (by subst e10; subst e9; rw [← heq]; simp only [flX4_filter_1, if_neg c_5, if_pos c_6, if_pos c_7, if_neg c_8]) hP hS (lv_sub hl [0, 2, 3, 4, 5, 6, 7] rfl)
        exact loop (((st.1 56 1).toNatClampNeg) + 1) 0  st4 _ _ _ (Nat.zero_le _) (by omega) (by subst e4; rw [ow_si_ne (by decide)]; exact (mz_nI hmz1).1) (by subst e4; exact ow_si_ne (by decide)) ⟨0, Nat.le_refl 0, by subst e4; exact ow_si_e _ _ _ _⟩ (by subst e4; simp only [fX4_filter_1, if_neg c_1, if_neg c_2, if_pos c_3]) hP hS (lv_sub hl [0, 1, 2, 3, 4, 5, 6] rfl)
      · refine lv_bipush (v := (-3)) hx hb dX4_filter_40 (by decide) ?_
        exact W.iret (v := (-3)) hx hb hr (fun t ht hW => ⟨⟨(-3), st, rfl, (by simp only [fX4_filter_1, if_neg c_1, if_neg c_2, if_neg c_3]), ow_Bi ht hP⟩, hS.F ht⟩) hS.2.2 dX4_filter_42
    · refine lv_iconst (v := (-1)) hx hb dX4_filter_28 (by decide) ?_
      exact W.iret (v := (-1)) hx hb hr (fun t ht hW => ⟨⟨(-1), st, rfl, (by simp only [fX4_filter_1, if_neg c_1, if_pos c_2]), ow_Bi ht hP⟩, hS.F ht⟩) hS.2.2 dX4_filter_29

theorem li_X4_sum_1_X4 : ∀ w ∈ u_ws RX4 TX4 19, w ∈ wsX4_sum := by decide +kernel
theorem lk_X4_sum_1_1 : (.fieldLink RX4 60 "RecordLabelsModel" "records" "[I" : Cond) ∈ wsX4_sum := by decide +kernel
theorem lk_X4_sum_1_2 : (.fieldLink RX4 63 "RecordLabelsModel" "cells" "[I" : Cond) ∈ wsX4_sum := by decide +kernel
theorem lk_X4_sum_1_3 : (.fieldLink RX4 101 "RecordLabelsModel" "came" "J" : Cond) ∈ wsX4_sum := by decide +kernel
def flX4_sum_1  : Nat → Nat → Int64 → ow_St → Int64 × ow_St
  | 0, _, _, sv => (0, sv)
  | n + 1, i, w2, sv => (if (sv.1 56 1) ≤ (nI i) then (w2, sv) else (if (fX4_wrong_1_9 sv (120 + (4 * (nI i)))) = (-4) then (let st3 := (fX4_begin sv 1).2; (if (fX4_begin sv 1).1 = 0 then (let st5 := (fX4_works st3 1 (st3.1 57 ((120 + (4 * (nI i))).toNatClampNeg)) ((st3.1 57 (((120 + (4 * (nI i))) + 3).toNatClampNeg)).toInt64)).2; (if (fX4_works st3 1 (st3.1 57 ((120 + (4 * (nI i))).toNatClampNeg)) ((st3.1 57 (((120 + (4 * (nI i))) + 3).toNatClampNeg)).toInt64)).1 = 1 then (flX4_sum_1  n (i + 1) (w2 + (st5.2.1 2)) st5) else (flX4_sum_1  n (i + 1) (w2 + 0) st5))) else ((((fX4_begin sv 1).1).toInt64), st3))) else (flX4_sum_1  n (i + 1) w2 sv)))
def fX4_sum_1 (st : ow_St) : Int64 × ow_St := (flX4_sum_1  (((st.1 56 1).toNatClampNeg) + 1) 0 (0 : Int64) st)
set_option maxHeartbeats 4000000 in
set_option maxRecDepth 100000 in
theorem kX4_sum_1 (l : Launch) (D : va_G) (ca : Nat → ClassId) (ad : ow_Ad) (A : Nat → Prop) (st : ow_St)  (hmz1 : iv_mz st 1) : Met l yX4_sum wsX4_sum ({ frames := 2, cells := 0, slots := 0, locals := 46 }) (va_Pc [.ref (ad 10 0), .int 1] (ow_W D ca ad A st)) (va_Ql (fun r st' => (r, st') = (fX4_sum_1 st)) (ow_B D ca ad) A) 0 0 A := by
  refine Met.ofW (cc := cX4_sum) (maxL := 7) (ret := (some .long)) (by decide) rfl ?_
  intro p e s m args below meth c s₁ B hml hv
  obtain ⟨rfl, hP, hC⟩ := hv
  have hx := B.exec
  have hb := B.bytes
  have hr := B.returns
  have hts := atoms_spec (ws := wsX4_sum) B.pre
  have hown : s.vm.findClass RX4 = some m.cls := findClass_of_methodNamed B.named
  have hlocks := B.notSynchronized
  have hS : va_S A s.heap s.heap [] := va_S.rf
  have hl := lv_entry ([.ref (ad 10 0), .int 1]) (n := 7) (Nat.le_of_ble_eq_true rfl)
  rw [lg_entry_eq]
  generalize (lg_sl ([.ref (ad 10 0), .int 1]) ++ List.replicate (7 - (lg_sl ([.ref (ad 10 0), .int 1])).length) Slot.unset).toArray = ls at hl ⊢
  have hl : lv_has ls 7 [(0, .ref (ad 10 0)), (1, .int 1)] := hl
  have hB30 : ((st.1 56 1).toNatClampNeg) ≤ 30 := (mz_nI hmz1).2
  refine lv_iload_n hx hb dX4_sum_0 rfl (lv_at hl 1 rfl) ?_
  refine og_ciP (og_runS (As := [.int 1]) (rest := []) ⟨hx, hb, hml, hown, hts⟩ (kX4_isTable l D ca ad A st 1) (va_cwS 1 hts gX4_sum_X4_isTable rfl rfl rfl (by decide +kernel) ⟨Nat.le_of_ble_eq_true rfl, Nat.le_of_ble_eq_true rfl⟩) hC hP hS rfl hl.1 rfl (Nat.le_of_ble_eq_true rfl) dX4_sum_1 ⟨Nat.zero_le _, Nat.zero_le _⟩) hS (fun H locs hP hS => ?_)
  refine lv_if_ne (tgt := 11) hx hb dX4_sum_4 (by decide) (fun _ => ?_) (fun c => absurd c isT_1)
  refine lv_lconst (v := 0) hx hb dX4_sum_11 rfl ?_
  refine lv_lstore_n (lv' := [(2, .long 0), (0, .ref (ad 10 0)), (1, .int 1)]) hx hb dX4_sum_12 rfl hl (by decide) rfl (fun ls hl => ?_)
  refine lv_iconst (v := 0) hx hb dX4_sum_13 (by decide) ?_
  refine lv_istore (lv' := [(4, .int 0), (2, .long 0), (0, .ref (ad 10 0)), (1, .int 1)]) hx hb dX4_sum_14 hl (by decide) rfl (fun ls hl => ?_)
  have loop : ∀ (n i : Nat) (w2 : Int64) (sv : ow_St) (H : Heap) (locs : List Loc) (ls : Array Slot), i ≤ ((st.1 56 1).toNatClampNeg) → ((st.1 56 1).toNatClampNeg) < i + n → (sv.1 56 1 = nI ((st.1 56 1).toNatClampNeg)) → flX4_sum_1  n i w2 sv = (fX4_sum_1 st) → va_P D vwCl (ow_ws ad (ow_c ca ad sv)) H → va_S A s.heap H locs → lv_has ls 7 [(4, .int (nI i)), (2, .long w2), (0, .ref (ad 10 0)), (1, .int 1)] → W p l e (headSpec wsX4_sum ({ frames := 2, cells := 0, slots := 0, locals := 46 } : Room)).room s m ([.ref (ad 10 0), .int 1] : List Value).toArray below meth c H locs 0 0 (MQ below (va_Ql (fun r st' => (r, st') = (fX4_sum_1 st)) (ow_B D ca ad) A) ([.ref (ad 10 0), .int 1] : List Value).toArray s 0 0 A) (F0 m 16 ls []) := by
    intro n
    induction n with
    | zero => intro i w2 sv H locs ls h1 h2; exact absurd h2 (by omega)
    | succ n ih =>
      intro i w2 sv H locs ls hle hlt hB heq hP hS hl
      refine lv_iload hx hb dX4_sum_16 (lv_at hl 0 rfl) ?_
      refine lv_aload_n hx hb dX4_sum_18 rfl (lv_at hl 2 rfl) ?_
      refine og_get (C := RX4) (T := TX4) (N := 19) (g := 10) (i := 0) (v := .ref (ad 11 8)) hx hb hts li_X4_sum_1_X4 hown hC hP (ow_q10_0) rfl rfl 11 (by decide) (hts _ lk_X4_sum_1_1) rfl rfl dX4_sum_19 ?_
      refine lv_iload_n hx hb dX4_sum_22 rfl (lv_at hl 3 rfl) ?_
      refine og_iald (g := 11) (i := 8) (j := 1) (v := (sv.1 56 1)) hx hb hC hP (ow_q11_8) rfl (by unfold vp_in; decide) rfl rfl dX4_sum_23 ?_
      refine lv_icmp_ge (tgt := 121) hx hb dX4_sum_24 (by decide) (fun c_1 => ?_) (fun c_1 => ?_)
      · refine lv_lload_n hx hb dX4_sum_121 rfl (lv_at hl 1 rfl) ?_
        exact W.lret (v := w2) hx hb hr (fun t ht hW => ⟨⟨w2, sv, rfl, (by rw [← heq]; simp only [flX4_sum_1, if_pos c_1]), ow_Bi ht hP⟩, hS.F ht⟩) hS.2.2 dX4_sum_122
      · refine lv_bipush (v := 120) hx hb dX4_sum_27 (by decide) ?_
        refine lv_iload_n hx hb dX4_sum_29 rfl (lv_at hl 3 rfl) ?_
        refine lv_imul hx hb dX4_sum_30 ?_
        rw [show (120 : Int32) * 1 = (120 : Int32) from rfl]
        refine lv_iconst (v := 4) hx hb dX4_sum_31 (by decide) ?_
        refine lv_iload hx hb dX4_sum_32 (lv_at hl 0 rfl) ?_
        refine lv_imul hx hb dX4_sum_34 ?_
        refine lv_iadd hx hb dX4_sum_35 ?_
        refine lv_istore (lv' := [(5, .int (120 + (4 * (nI i)))), (4, .int (nI i)), (2, .long w2), (0, .ref (ad 10 0)), (1, .int 1)]) hx hb dX4_sum_36 hl (by decide) rfl (fun ls hl => ?_)
        refine lv_aload_n hx hb dX4_sum_38 rfl (lv_at hl 3 rfl) ?_
        refine lv_iload_n hx hb dX4_sum_39 rfl (lv_at hl 4 rfl) ?_
        refine lv_aload_n hx hb dX4_sum_40 rfl (lv_at hl 3 rfl) ?_
        refine og_get (C := RX4) (T := TX4) (N := 19) (g := 10) (i := 0) (v := .ref (ad 11 9)) hx hb hts li_X4_sum_1_X4 hown hC hP (ow_q10_0) rfl rfl 12 (by decide) (hts _ lk_X4_sum_1_2) rfl rfl dX4_sum_41 ?_
        refine lv_iload hx hb dX4_sum_44 (lv_at hl 0 rfl) ?_
        refine og_ciP (og_runV (C := RX4) (T := TX4) (N := 19) (g := 10) (i := 0) (As := [.int 1, .ref (ad 11 9), .int (120 + (4 * (nI i)))]) (rest := []) ⟨hx, hb, hml, hown, hts⟩ (kX4_wrong_1_9 l D ca ad A sv (120 + (4 * (nI i))) (at_1 ⟨i, Nat.lt_of_lt_of_le (ow_lt (by rw [← hB]; exact c_1) hle (by omega)) hB30, rfl⟩)) (cwV 3 hts gX4_sum_X4_wrong rfl rfl rfl (by decide +kernel) ⟨Nat.le_of_ble_eq_true rfl, Nat.le_of_ble_eq_true rfl⟩) hC hP hS (ow_q10_0) rfl rfl rfl hl.1 rfl (Nat.le_of_ble_eq_true rfl) dX4_sum_46 ⟨Nat.zero_le _, Nat.zero_le _⟩) hS (fun H locs hP hS => ?_)
        refine lv_bipush (v := (-4)) hx hb dX4_sum_49 (by decide) ?_
        refine lv_icmp_ne (tgt := 115) hx hb dX4_sum_51 (by decide) (fun c_2 => ?_) (fun c_2 => ?_)
        · refine lv_iinc (v := (nI (i + 1))) (lv' := [(4, .int (nI (i + 1))), (5, .int (120 + (4 * (nI i)))), (2, .long w2), (0, .ref (ad 10 0)), (1, .int 1)]) hx hb dX4_sum_115 hl (k := 1) rfl (nI_1 _) (by decide) rfl (fun ls hl => ?_)
          refine lv_goto (tgt := 16) hx hb dX4_sum_118 (by decide) ?_
          exact ih (i + 1) w2 sv _ _ _ (ow_lt (by rw [← hB]; exact c_1) hle (by omega)) (by omega) (by exact hB) (by rw [← heq]; simp only [flX4_sum_1, if_neg c_1, if_neg c_2]) hP hS (lv_sub hl [0, 2, 3, 4] rfl)
        · refine lv_aload_n hx hb dX4_sum_54 rfl (lv_at hl 3 rfl) ?_
          refine lv_iload_n hx hb dX4_sum_55 rfl (lv_at hl 4 rfl) ?_
          refine og_ciW (og_runV (C := RX4) (T := TX4) (N := 19) (g := 10) (i := 0) (As := [.int 1]) (rest := []) ⟨hx, hb, hml, hown, hts⟩ (kX4_begin l D ca ad A sv 1 (by unfold vp_in; decide)) (cwV 1 hts gX4_sum_X4_begin rfl rfl rfl (by decide +kernel) ⟨Nat.le_of_ble_eq_true rfl, Nat.le_of_ble_eq_true rfl⟩) hC hP hS (ow_q10_0) rfl rfl rfl hl.1 rfl (Nat.le_of_ble_eq_true rfl) dX4_sum_56 ⟨Nat.zero_le _, Nat.zero_le _⟩) hS (fun H locs hP hS => ?_)
          obtain ⟨st3, e3⟩ : ∃ z, z = (fX4_begin sv 1).2 := ⟨_, rfl⟩
          rw [← e3] at hP
          refine lv_istore (lv' := [(6, .int ((fX4_begin sv 1).1)), (5, .int (120 + (4 * (nI i)))), (4, .int (nI i)), (2, .long w2), (0, .ref (ad 10 0)), (1, .int 1)]) hx hb dX4_sum_59 hl (by decide) rfl (fun ls hl => ?_)
          refine lv_iload hx hb dX4_sum_61 (lv_at hl 0 rfl) ?_
          refine lv_if_eq (tgt := 70) hx hb dX4_sum_63 (by decide) (fun c_4 => ?_) (fun c_4 => ?_)
          · refine lv_lload_n hx hb dX4_sum_70 rfl (lv_at hl 3 rfl) ?_
            refine lv_aload_n hx hb dX4_sum_71 rfl (lv_at hl 4 rfl) ?_
            refine lv_iload_n hx hb dX4_sum_72 rfl (lv_at hl 5 rfl) ?_
            refine lv_aload_n hx hb dX4_sum_73 rfl (lv_at hl 4 rfl) ?_
            refine og_get (C := RX4) (T := TX4) (N := 19) (g := 10) (i := 0) (v := .ref (ad 11 9)) hx hb hts li_X4_sum_1_X4 hown hC hP (ow_q10_0) rfl rfl 12 (by decide) (hts _ lk_X4_sum_1_2) rfl rfl dX4_sum_74 ?_
            refine lv_iload hx hb dX4_sum_77 (lv_at hl 1 rfl) ?_
            refine og_iald (g := 11) (i := 9) (j := ((120 + (4 * (nI i))).toNatClampNeg)) (v := (st3.1 57 ((120 + (4 * (nI i))).toNatClampNeg))) hx hb hC hP (ow_q11_9) rfl (at_in0 (at_1 ⟨i, Nat.lt_of_lt_of_le (ow_lt (by rw [← hB]; exact c_1) hle (by omega)) hB30, rfl⟩)) rfl rfl dX4_sum_79 ?_
            refine lv_aload_n hx hb dX4_sum_80 rfl (lv_at hl 4 rfl) ?_
            refine og_get (C := RX4) (T := TX4) (N := 19) (g := 10) (i := 0) (v := .ref (ad 11 9)) hx hb hts li_X4_sum_1_X4 hown hC hP (ow_q10_0) rfl rfl 12 (by decide) (hts _ lk_X4_sum_1_2) rfl rfl dX4_sum_81 ?_
            refine lv_iload hx hb dX4_sum_84 (lv_at hl 1 rfl) ?_
            refine lv_iload_n hx hb dX4_sum_86 rfl (lv_at hl 5 rfl) ?_
            refine lv_if_ne (tgt := 94) hx hb dX4_sum_87 (by decide) (fun _ => ?_) (fun c => absurd c (by decide))
            refine lv_iconst (v := 3) hx hb dX4_sum_94 (by decide) ?_
            refine lv_iadd hx hb dX4_sum_95 ?_
            refine og_iald (g := 11) (i := 9) (j := (((120 + (4 * (nI i))) + 3).toNatClampNeg)) (v := (st3.1 57 (((120 + (4 * (nI i))) + 3).toNatClampNeg))) hx hb hC hP (ow_q11_9) rfl (at_in (d := 3) (at_1 ⟨i, Nat.lt_of_lt_of_le (ow_lt (by rw [← hB]; exact c_1) hle (by omega)) hB30, rfl⟩) (by decide)) rfl rfl dX4_sum_96 ?_
            refine lv_i2l (v := (st3.1 57 (((120 + (4 * (nI i))) + 3).toNatClampNeg)).toInt64) hx hb dX4_sum_97 rfl ?_
            refine og_ciW (og_runV (C := RX4) (T := TX4) (N := 19) (g := 10) (i := 0) (As := [.int 1, .int (st3.1 57 ((120 + (4 * (nI i))).toNatClampNeg)), .long ((st3.1 57 (((120 + (4 * (nI i))) + 3).toNatClampNeg)).toInt64)]) (rest := [.long w2]) ⟨hx, hb, hml, hown, hts⟩ (kX4_works l D ca ad A st3 1 (st3.1 57 ((120 + (4 * (nI i))).toNatClampNeg)) ((st3.1 57 (((120 + (4 * (nI i))) + 3).toNatClampNeg)).toInt64)) (cwV 3 hts gX4_sum_X4_works rfl rfl rfl (by decide +kernel) ⟨Nat.le_of_ble_eq_true rfl, Nat.le_of_ble_eq_true rfl⟩) hC hP hS (ow_q10_0) rfl rfl rfl hl.1 rfl (Nat.le_of_ble_eq_true rfl) dX4_sum_98 ⟨Nat.zero_le _, Nat.zero_le _⟩) hS (fun H locs hP hS => ?_)
            obtain ⟨st5, e5⟩ : ∃ z, z = (fX4_works st3 1 (st3.1 57 ((120 + (4 * (nI i))).toNatClampNeg)) ((st3.1 57 (((120 + (4 * (nI i))) + 3).toNatClampNeg)).toInt64)).2 := ⟨_, rfl⟩
            rw [← e5] at hP
            refine lv_iconst (v := 1) hx hb dX4_sum_101 (by decide) ?_
            refine lv_icmp_ne (tgt := 112) hx hb dX4_sum_102 (by decide) (fun c_6 => ?_) (fun c_6 => ?_)
            · refine lv_lconst (v := 0) hx hb dX4_sum_112 rfl ?_
              refine lv_ladd hx hb dX4_sum_113 ?_
              refine lv_lstore_n (lv' := [(2, .long (w2 + 0)), (6, .int ((fX4_begin sv 1).1)), (5, .int (120 + (4 * (nI i)))), (4, .int (nI i)), (0, .ref (ad 10 0)), (1, .int 1)]) hx hb dX4_sum_114 rfl hl (by decide) rfl (fun ls hl => ?_)
              refine lv_iinc (v := (nI (i + 1))) (lv' := [(4, .int (nI (i + 1))), (2, .long (w2 + 0)), (6, .int ((fX4_begin sv 1).1)), (5, .int (120 + (4 * (nI i)))), (0, .ref (ad 10 0)), (1, .int 1)]) hx hb dX4_sum_115 hl (k := 3) rfl (nI_1 _) (by decide) rfl (fun ls hl => ?_)
              refine lv_goto (tgt := 16) hx hb dX4_sum_118 (by decide) ?_
              exact ih (i + 1) (w2 + 0) st5 _ _ _ (ow_lt (by rw [← hB]; exact c_1) hle (by omega)) (by omega) (by subst e5; subst e3; simp only [bg_fr, wk_fr]; exact hB) (by subst e5; subst e3; rw [← heq]; simp only [flX4_sum_1, if_neg c_1, if_pos c_2, if_pos c_4, if_neg c_6]) hP hS (lv_sub hl [0, 1, 4, 5] rfl)
            · refine lv_aload_n hx hb dX4_sum_105 rfl (lv_at hl 4 rfl) ?_
              refine og_get (C := RX4) (T := TX4) (N := 19) (g := 10) (i := 0) (v := .long (st5.2.1 2)) hx hb hts li_X4_sum_1_X4 hown hC hP (ow_q10_0) rfl rfl 17 (by decide) (hts _ lk_X4_sum_1_3) rfl rfl dX4_sum_106 ?_
              refine lv_goto (tgt := 113) hx hb dX4_sum_109 (by decide) ?_
              refine lv_ladd hx hb dX4_sum_113 ?_
              refine lv_lstore_n (lv' := [(2, .long (w2 + (st5.2.1 2))), (6, .int ((fX4_begin sv 1).1)), (5, .int (120 + (4 * (nI i)))), (4, .int (nI i)), (0, .ref (ad 10 0)), (1, .int 1)]) hx hb dX4_sum_114 rfl hl (by decide) rfl (fun ls hl => ?_)
              refine lv_iinc (v := (nI (i + 1))) (lv' := [(4, .int (nI (i + 1))), (2, .long (w2 + (st5.2.1 2))), (6, .int ((fX4_begin sv 1).1)), (5, .int (120 + (4 * (nI i)))), (0, .ref (ad 10 0)), (1, .int 1)]) hx hb dX4_sum_115 hl (k := 3) rfl (nI_1 _) (by decide) rfl (fun ls hl => ?_)
              refine lv_goto (tgt := 16) hx hb dX4_sum_118 (by decide) ?_
              exact ih (i + 1) (w2 + (st5.2.1 2)) st5 _ _ _ (ow_lt (by rw [← hB]; exact c_1) hle (by omega)) (by omega) (by subst e5; subst e3; simp only [bg_fr, wk_fr]; exact hB) (by subst e5; subst e3; rw [← heq]; simp only [flX4_sum_1, if_neg c_1, if_pos c_2, if_pos c_4, if_pos c_6]) hP hS (lv_sub hl [0, 1, 4, 5] rfl)
          · refine lv_iload hx hb dX4_sum_66 (lv_at hl 0 rfl) ?_
            refine lv_i2l (v := ((fX4_begin sv 1).1).toInt64) hx hb dX4_sum_68 rfl ?_
            exact W.lret (v := (((fX4_begin sv 1).1).toInt64)) hx hb hr (fun t ht hW => ⟨⟨(((fX4_begin sv 1).1).toInt64), st3, rfl, (by subst e3; rw [← heq]; simp only [flX4_sum_1, if_neg c_1, if_pos c_2, if_neg c_4]), ow_Bi ht hP⟩, hS.F ht⟩) hS.2.2 dX4_sum_69
  exact loop (((st.1 56 1).toNatClampNeg) + 1) 0 (0 : Int64) st _ _ _ (Nat.zero_le _) (by omega) (mz_nI hmz1).1 (by simp only [fX4_sum_1]) hP hS (lv_sub hl [0, 1, 2, 3] rfl)

theorem li_X4_part_n_X4 : ∀ w ∈ u_ws RX4 TX4 19, w ∈ wsX4_part := by decide +kernel
theorem lk_X4_part_n_1 : (.fieldLink RX4 66 "RecordLabelsModel" "latest" "I" : Cond) ∈ wsX4_part := by decide +kernel
def fX4_part_n (st : ow_St) (x1 : Int32) : Int32 := (-4)
set_option maxHeartbeats 4000000 in
set_option maxRecDepth 100000 in
theorem kX4_part_n (l : Launch) (D : va_G) (ca : Nat → ClassId) (ad : ow_Ad) (A : Nat → Prop) (st : ow_St) (x1 : Int32) (hp : st.1 61 2 = (-4)) : Met l yX4_part wsX4_part ({ frames := 0, cells := 0, slots := 0, locals := 0 }) (va_Pc [.ref (ad 10 0), .int x1] (ow_W D ca ad A st)) (va_Qi (fun r st' => r = (fX4_part_n st x1) ∧ st' = st) (ow_B D ca ad) A) 0 0 A := by
  refine Met.ofW (cc := cX4_part) (maxL := 2) (ret := (some .int)) (by decide) rfl ?_
  intro p e s m args below meth c s₁ B hml hv
  obtain ⟨rfl, hP, hC⟩ := hv
  have hx := B.exec
  have hb := B.bytes
  have hr := B.returns
  have hts := atoms_spec (ws := wsX4_part) B.pre
  have hown : s.vm.findClass RX4 = some m.cls := findClass_of_methodNamed B.named
  have hlocks := B.notSynchronized
  have hS : va_S A s.heap s.heap [] := va_S.rf
  have hl := lv_entry ([.ref (ad 10 0), .int x1]) (n := 2) (Nat.le_of_ble_eq_true rfl)
  rw [lg_entry_eq]
  generalize (lg_sl ([.ref (ad 10 0), .int x1]) ++ List.replicate (2 - (lg_sl ([.ref (ad 10 0), .int x1])).length) Slot.unset).toArray = ls at hl ⊢
  have hl : lv_has ls 2 [(0, .ref (ad 10 0)), (1, .int x1)] := hl
  refine lv_aload_n hx hb dX4_part_0 rfl (lv_at hl 0 rfl) ?_
  refine og_get (C := RX4) (T := TX4) (N := 19) (g := 10) (i := 0) (v := .int (-4)) hx hb hts li_X4_part_n_X4 hown hC hP (ow_q10_0) rfl rfl 13 (by decide) (hts _ lk_X4_part_n_1) rfl (by show some (Value.int (st.1 61 2)) = _; rw [hp]) dX4_part_1 ?_
  refine lv_bipush (v := (-4)) hx hb dX4_part_4 (by decide) ?_
  refine lv_icmp_eq (tgt := 26) hx hb dX4_part_6 (by decide) (fun _ => ?_) (fun c => absurd (by decide) c)
  refine lv_bipush (v := (-4)) hx hb dX4_part_26 (by decide) ?_
  refine lv_goto (tgt := 46) hx hb dX4_part_28 (by decide) ?_
  exact W.iret (v := (-4)) hx hb hr (fun t ht hW => ⟨⟨(-4), st, rfl, ⟨(by simp only [fX4_part_n]), rfl⟩, ow_Bi ht hP⟩, hS.F ht⟩) hS.2.2 dX4_part_46

def fX4_record_n (st : ow_St) (x1 x2 x3 x4 x5 : Int32) : Int32 × ow_St := ((-1), st)
set_option maxHeartbeats 4000000 in
set_option maxRecDepth 100000 in
theorem kX4_record_n (l : Launch) (D : va_G) (ca : Nat → ClassId) (ad : ow_Ad) (A : Nat → Prop) (st : ow_St) (x1 : Int32) (x2 : Int32) (x3 : Int32) (x4 : Int32) (x5 : Int32) (hn0 : ¬ x1 = 0) (hn1 : ¬ x1 = 1) : Met l yX4_record wsX4_record ({ frames := 1, cells := 0, slots := 0, locals := 20 }) (va_Pc [.ref (ad 10 0), .int x1, .int x2, .int x3, .int x4, .int x5] (ow_W D ca ad A st)) (va_Qi (fun r st' => (r, st') = (fX4_record_n st x1 x2 x3 x4 x5)) (ow_B D ca ad) A) 0 0 A := by
  refine Met.ofW (cc := cX4_record) (maxL := 9) (ret := (some .int)) (by decide) rfl ?_
  intro p e s m args below meth c s₁ B hml hv
  obtain ⟨rfl, hP, hC⟩ := hv
  have hx := B.exec
  have hb := B.bytes
  have hr := B.returns
  have hts := atoms_spec (ws := wsX4_record) B.pre
  have hown : s.vm.findClass RX4 = some m.cls := findClass_of_methodNamed B.named
  have hlocks := B.notSynchronized
  have hS : va_S A s.heap s.heap [] := va_S.rf
  have hl := lv_entry ([.ref (ad 10 0), .int x1, .int x2, .int x3, .int x4, .int x5]) (n := 9) (Nat.le_of_ble_eq_true rfl)
  rw [lg_entry_eq]
  generalize (lg_sl ([.ref (ad 10 0), .int x1, .int x2, .int x3, .int x4, .int x5]) ++ List.replicate (9 - (lg_sl ([.ref (ad 10 0), .int x1, .int x2, .int x3, .int x4, .int x5])).length) Slot.unset).toArray = ls at hl ⊢
  have hl : lv_has ls 9 [(0, .ref (ad 10 0)), (1, .int x1), (2, .int x2), (3, .int x3), (4, .int x4), (5, .int x5)] := hl
  refine lv_iload_n hx hb dX4_record_0 rfl (lv_at hl 1 rfl) ?_
  refine og_ciP (og_runS (As := [.int x1]) (rest := []) ⟨hx, hb, hml, hown, hts⟩ (kX4_isTable l D ca ad A st x1) (va_cwS 1 hts gX4_record_X4_isTable rfl rfl rfl (by decide +kernel) ⟨Nat.le_of_ble_eq_true rfl, Nat.le_of_ble_eq_true rfl⟩) hC hP hS rfl hl.1 rfl (Nat.le_of_ble_eq_true rfl) dX4_record_1 ⟨Nat.zero_le _, Nat.zero_le _⟩) hS (fun H locs hP hS => ?_)
  refine lv_if_ne (tgt := 9) hx hb dX4_record_4 (by decide) (fun c => absurd (isT_n hn0 hn1) c) (fun _ => ?_)
  refine lv_iconst (v := (-1)) hx hb dX4_record_7 (by decide) ?_
  exact W.iret (v := (-1)) hx hb hr (fun t ht hW => ⟨⟨(-1), st, rfl, (by simp only [fX4_record_n]), ow_Bi ht hP⟩, hS.F ht⟩) hS.2.2 dX4_record_8

def fX4_filter_n (st : ow_St) (x1 x2 x3 x4 x5 : Int32) : Int32 × ow_St := ((-1), st)
set_option maxHeartbeats 4000000 in
set_option maxRecDepth 100000 in
theorem kX4_filter_n (l : Launch) (D : va_G) (ca : Nat → ClassId) (ad : ow_Ad) (A : Nat → Prop) (st : ow_St) (x1 : Int32) (x2 : Int32) (x3 : Int32) (x4 : Int32) (x5 : Int32) (hn0 : ¬ x1 = 0) (hn1 : ¬ x1 = 1) : Met l yX4_filter wsX4_filter ({ frames := 1, cells := 0, slots := 0, locals := 20 }) (va_Pc [.ref (ad 10 0), .int x1, .int x2, .int x3, .int x4, .int x5] (ow_W D ca ad A st)) (va_Qi (fun r st' => (r, st') = (fX4_filter_n st x1 x2 x3 x4 x5)) (ow_B D ca ad) A) 0 0 A := by
  refine Met.ofW (cc := cX4_filter) (maxL := 8) (ret := (some .int)) (by decide) rfl ?_
  intro p e s m args below meth c s₁ B hml hv
  obtain ⟨rfl, hP, hC⟩ := hv
  have hx := B.exec
  have hb := B.bytes
  have hr := B.returns
  have hts := atoms_spec (ws := wsX4_filter) B.pre
  have hown : s.vm.findClass RX4 = some m.cls := findClass_of_methodNamed B.named
  have hlocks := B.notSynchronized
  have hS : va_S A s.heap s.heap [] := va_S.rf
  have hl := lv_entry ([.ref (ad 10 0), .int x1, .int x2, .int x3, .int x4, .int x5]) (n := 8) (Nat.le_of_ble_eq_true rfl)
  rw [lg_entry_eq]
  generalize (lg_sl ([.ref (ad 10 0), .int x1, .int x2, .int x3, .int x4, .int x5]) ++ List.replicate (8 - (lg_sl ([.ref (ad 10 0), .int x1, .int x2, .int x3, .int x4, .int x5])).length) Slot.unset).toArray = ls at hl ⊢
  have hl : lv_has ls 8 [(0, .ref (ad 10 0)), (1, .int x1), (2, .int x2), (3, .int x3), (4, .int x4), (5, .int x5)] := hl
  refine lv_iload_n hx hb dX4_filter_0 rfl (lv_at hl 1 rfl) ?_
  refine og_ciP (og_runS (As := [.int x1]) (rest := []) ⟨hx, hb, hml, hown, hts⟩ (kX4_isTable l D ca ad A st x1) (va_cwS 1 hts gX4_filter_X4_isTable rfl rfl rfl (by decide +kernel) ⟨Nat.le_of_ble_eq_true rfl, Nat.le_of_ble_eq_true rfl⟩) hC hP hS rfl hl.1 rfl (Nat.le_of_ble_eq_true rfl) dX4_filter_1 ⟨Nat.zero_le _, Nat.zero_le _⟩) hS (fun H locs hP hS => ?_)
  refine lv_if_eq (tgt := 28) hx hb dX4_filter_4 (by decide) (fun _ => ?_) (fun c => absurd (isT_n hn0 hn1) c)
  refine lv_iconst (v := (-1)) hx hb dX4_filter_28 (by decide) ?_
  exact W.iret (v := (-1)) hx hb hr (fun t ht hW => ⟨⟨(-1), st, rfl, (by simp only [fX4_filter_n]), ow_Bi ht hP⟩, hS.F ht⟩) hS.2.2 dX4_filter_29

theorem lk_X4_sum_n_0 : (.constantLong RX4 171 (-1) : Cond) ∈ wsX4_sum := by decide +kernel
def fX4_sum_n (st : ow_St) (x1 : Int32) : Int64 × ow_St := ((-1), st)
set_option maxHeartbeats 4000000 in
set_option maxRecDepth 100000 in
theorem kX4_sum_n (l : Launch) (D : va_G) (ca : Nat → ClassId) (ad : ow_Ad) (A : Nat → Prop) (st : ow_St) (x1 : Int32) (hn0 : ¬ x1 = 0) (hn1 : ¬ x1 = 1) : Met l yX4_sum wsX4_sum ({ frames := 1, cells := 0, slots := 0, locals := 20 }) (va_Pc [.ref (ad 10 0), .int x1] (ow_W D ca ad A st)) (va_Ql (fun r st' => (r, st') = (fX4_sum_n st x1)) (ow_B D ca ad) A) 0 0 A := by
  refine Met.ofW (cc := cX4_sum) (maxL := 7) (ret := (some .long)) (by decide) rfl ?_
  intro p e s m args below meth c s₁ B hml hv
  obtain ⟨rfl, hP, hC⟩ := hv
  have hx := B.exec
  have hb := B.bytes
  have hr := B.returns
  have hts := atoms_spec (ws := wsX4_sum) B.pre
  have hown : s.vm.findClass RX4 = some m.cls := findClass_of_methodNamed B.named
  have hlocks := B.notSynchronized
  have hS : va_S A s.heap s.heap [] := va_S.rf
  have hl := lv_entry ([.ref (ad 10 0), .int x1]) (n := 7) (Nat.le_of_ble_eq_true rfl)
  rw [lg_entry_eq]
  generalize (lg_sl ([.ref (ad 10 0), .int x1]) ++ List.replicate (7 - (lg_sl ([.ref (ad 10 0), .int x1])).length) Slot.unset).toArray = ls at hl ⊢
  have hl : lv_has ls 7 [(0, .ref (ad 10 0)), (1, .int x1)] := hl
  refine lv_iload_n hx hb dX4_sum_0 rfl (lv_at hl 1 rfl) ?_
  refine og_ciP (og_runS (As := [.int x1]) (rest := []) ⟨hx, hb, hml, hown, hts⟩ (kX4_isTable l D ca ad A st x1) (va_cwS 1 hts gX4_sum_X4_isTable rfl rfl rfl (by decide +kernel) ⟨Nat.le_of_ble_eq_true rfl, Nat.le_of_ble_eq_true rfl⟩) hC hP hS rfl hl.1 rfl (Nat.le_of_ble_eq_true rfl) dX4_sum_1 ⟨Nat.zero_le _, Nat.zero_le _⟩) hS (fun H locs hP hS => ?_)
  refine lv_if_ne (tgt := 11) hx hb dX4_sum_4 (by decide) (fun c => absurd (isT_n hn0 hn1) c) (fun _ => ?_)
  refine lv_ldc2 (v := (-1)) hx hb hown (hts _ lk_X4_sum_n_0) dX4_sum_7 ?_
  exact W.lret (v := (-1)) hx hb hr (fun t ht hW => ⟨⟨(-1), st, rfl, (by simp only [fX4_sum_n]), ow_Bi ht hP⟩, hS.F ht⟩) hS.2.2 dX4_sum_10

def fX4_lay_n (st : ow_St) (x1 x2 x3 x4 : Int32) : Int32 × ow_St := ((-1), st)
set_option maxHeartbeats 4000000 in
set_option maxRecDepth 100000 in
theorem kX4_lay_n (l : Launch) (D : va_G) (ca : Nat → ClassId) (ad : ow_Ad) (A : Nat → Prop) (st : ow_St) (x1 : Int32) (x2 : Int32) (x3 : Int32) (x4 : Int32) (hn0 : ¬ x1 = 0) (hn1 : ¬ x1 = 1) : Met l yX4_lay wsX4_lay ({ frames := 2, cells := 0, slots := 0, locals := 43 }) (va_Pc [.ref (ad 10 0), .int x1, .int x2, .int x3, .int x4] (ow_W D ca ad A st)) (va_Qi (fun r st' => (r, st') = (fX4_lay_n st x1 x2 x3 x4)) (ow_B D ca ad) A) 0 0 A := by
  refine Met.ofW (cc := cX4_lay) (maxL := 6) (ret := (some .int)) (by decide) rfl ?_
  intro p e s m args below meth c s₁ B hml hv
  obtain ⟨rfl, hP, hC⟩ := hv
  have hx := B.exec
  have hb := B.bytes
  have hr := B.returns
  have hts := atoms_spec (ws := wsX4_lay) B.pre
  have hown : s.vm.findClass RX4 = some m.cls := findClass_of_methodNamed B.named
  have hlocks := B.notSynchronized
  have hS : va_S A s.heap s.heap [] := va_S.rf
  have hl := lv_entry ([.ref (ad 10 0), .int x1, .int x2, .int x3, .int x4]) (n := 6) (Nat.le_of_ble_eq_true rfl)
  rw [lg_entry_eq]
  generalize (lg_sl ([.ref (ad 10 0), .int x1, .int x2, .int x3, .int x4]) ++ List.replicate (6 - (lg_sl ([.ref (ad 10 0), .int x1, .int x2, .int x3, .int x4])).length) Slot.unset).toArray = ls at hl ⊢
  have hl : lv_has ls 6 [(0, .ref (ad 10 0)), (1, .int x1), (2, .int x2), (3, .int x3), (4, .int x4)] := hl
  refine lv_aload_n hx hb dX4_lay_0 rfl (lv_at hl 0 rfl) ?_
  refine lv_iload_n hx hb dX4_lay_1 rfl (lv_at hl 1 rfl) ?_
  refine lv_iload_n hx hb dX4_lay_2 rfl (lv_at hl 2 rfl) ?_
  refine lv_iload_n hx hb dX4_lay_3 rfl (lv_at hl 3 rfl) ?_
  refine og_ciP (F := 0) (og_runV (C := RX4) (T := TX4) (N := 19) (g := 10) (i := 0) (As := [.int x1, .int x2, .int x3]) (rest := []) ⟨hx, hb, hml, hown, hts⟩ (kX4_isCell_n l D ca ad A st x1 x2 x3 hn0 hn1) (cwV 3 hts gX4_lay_X4_isCell rfl rfl rfl (by decide +kernel) ⟨Nat.le_of_ble_eq_true rfl, Nat.le_of_ble_eq_true rfl⟩) hC hP hS (ow_q10_0) rfl rfl rfl hl.1 rfl (Nat.le_of_ble_eq_true rfl) dX4_lay_4 ⟨Nat.zero_le _, Nat.zero_le _⟩) hS (fun H locs hP hS => ?_)
  refine lv_if_ne (tgt := 12) hx hb dX4_lay_7 (by decide) (fun c => absurd (by decide) c) (fun _ => ?_)
  refine lv_iconst (v := (-1)) hx hb dX4_lay_10 (by decide) ?_
  exact W.iret (v := (-1)) hx hb hr (fun t ht hW => ⟨⟨(-1), st, rfl, (by simp only [fX4_lay_n]), ow_Bi ht hP⟩, hS.F ht⟩) hS.2.2 dX4_lay_11

theorem lk_X4_cell_n_0 : (.constant RX4 167 (-2000000000) : Cond) ∈ wsX4_cell := by decide +kernel
def fX4_cell_n (st : ow_St) (x1 x2 x3 : Int32) : Int32 := (-2000000000)
set_option maxHeartbeats 4000000 in
set_option maxRecDepth 100000 in
theorem kX4_cell_n (l : Launch) (D : va_G) (ca : Nat → ClassId) (ad : ow_Ad) (A : Nat → Prop) (st : ow_St) (x1 : Int32) (x2 : Int32) (x3 : Int32) (hn0 : ¬ x1 = 0) (hn1 : ¬ x1 = 1) : Met l yX4_cell wsX4_cell ({ frames := 2, cells := 0, slots := 0, locals := 43 }) (va_Pc [.ref (ad 10 0), .int x1, .int x2, .int x3] (ow_W D ca ad A st)) (va_Qi (fun r st' => r = (fX4_cell_n st x1 x2 x3) ∧ st' = st) (ow_B D ca ad) A) 0 0 A := by
  refine Met.ofW (cc := cX4_cell) (maxL := 4) (ret := (some .int)) (by decide) rfl ?_
  intro p e s m args below meth c s₁ B hml hv
  obtain ⟨rfl, hP, hC⟩ := hv
  have hx := B.exec
  have hb := B.bytes
  have hr := B.returns
  have hts := atoms_spec (ws := wsX4_cell) B.pre
  have hown : s.vm.findClass RX4 = some m.cls := findClass_of_methodNamed B.named
  have hlocks := B.notSynchronized
  have hS : va_S A s.heap s.heap [] := va_S.rf
  have hl := lv_entry ([.ref (ad 10 0), .int x1, .int x2, .int x3]) (n := 4) (Nat.le_of_ble_eq_true rfl)
  rw [lg_entry_eq]
  generalize (lg_sl ([.ref (ad 10 0), .int x1, .int x2, .int x3]) ++ List.replicate (4 - (lg_sl ([.ref (ad 10 0), .int x1, .int x2, .int x3])).length) Slot.unset).toArray = ls at hl ⊢
  have hl : lv_has ls 4 [(0, .ref (ad 10 0)), (1, .int x1), (2, .int x2), (3, .int x3)] := hl
  refine lv_aload_n hx hb dX4_cell_0 rfl (lv_at hl 0 rfl) ?_
  refine lv_iload_n hx hb dX4_cell_1 rfl (lv_at hl 1 rfl) ?_
  refine lv_iload_n hx hb dX4_cell_2 rfl (lv_at hl 2 rfl) ?_
  refine lv_iload_n hx hb dX4_cell_3 rfl (lv_at hl 3 rfl) ?_
  refine og_ciP (F := 0) (og_runV (C := RX4) (T := TX4) (N := 19) (g := 10) (i := 0) (As := [.int x1, .int x2, .int x3]) (rest := []) ⟨hx, hb, hml, hown, hts⟩ (kX4_isCell_n l D ca ad A st x1 x2 x3 hn0 hn1) (cwV 3 hts gX4_cell_X4_isCell rfl rfl rfl (by decide +kernel) ⟨Nat.le_of_ble_eq_true rfl, Nat.le_of_ble_eq_true rfl⟩) hC hP hS (ow_q10_0) rfl rfl rfl hl.1 rfl (Nat.le_of_ble_eq_true rfl) dX4_cell_4 ⟨Nat.zero_le _, Nat.zero_le _⟩) hS (fun H locs hP hS => ?_)
  refine lv_if_eq (tgt := 34) hx hb dX4_cell_7 (by decide) (fun _ => ?_) (fun c => absurd (by decide) c)
  refine lv_ldc (v := (-2000000000)) hx hb hown (hts _ lk_X4_cell_n_0) dX4_cell_34 ?_
  exact W.iret (v := (-2000000000)) hx hb hr (fun t ht hW => ⟨⟨(-2000000000), st, rfl, ⟨(by simp only [fX4_cell_n]), rfl⟩, ow_Bi ht hP⟩, hS.F ht⟩) hS.2.2 dX4_cell_36

def fX4_back_n (st : ow_St) (x1 x2 : Int32) : Int32 × ow_St := ((-1), st)
set_option maxHeartbeats 4000000 in
set_option maxRecDepth 100000 in
theorem kX4_back_n (l : Launch) (D : va_G) (ca : Nat → ClassId) (ad : ow_Ad) (A : Nat → Prop) (st : ow_St) (x1 : Int32) (x2 : Int32) (hn0 : ¬ x1 = 0) (hn1 : ¬ x1 = 1) : Met l yX4_back wsX4_back ({ frames := 2, cells := 0, slots := 0, locals := 43 }) (va_Pc [.ref (ad 10 0), .int x1, .int x2] (ow_W D ca ad A st)) (va_Qi (fun r st' => (r, st') = (fX4_back_n st x1 x2)) (ow_B D ca ad) A) 0 0 A := by
  refine Met.ofW (cc := cX4_back) (maxL := 5) (ret := (some .int)) (by decide) rfl ?_
  intro p e s m args below meth c s₁ B hml hv
  obtain ⟨rfl, hP, hC⟩ := hv
  have hx := B.exec
  have hb := B.bytes
  have hr := B.returns
  have hts := atoms_spec (ws := wsX4_back) B.pre
  have hown : s.vm.findClass RX4 = some m.cls := findClass_of_methodNamed B.named
  have hlocks := B.notSynchronized
  have hS : va_S A s.heap s.heap [] := va_S.rf
  have hl := lv_entry ([.ref (ad 10 0), .int x1, .int x2]) (n := 5) (Nat.le_of_ble_eq_true rfl)
  rw [lg_entry_eq]
  generalize (lg_sl ([.ref (ad 10 0), .int x1, .int x2]) ++ List.replicate (5 - (lg_sl ([.ref (ad 10 0), .int x1, .int x2])).length) Slot.unset).toArray = ls at hl ⊢
  have hl : lv_has ls 5 [(0, .ref (ad 10 0)), (1, .int x1), (2, .int x2)] := hl
  refine lv_aload_n hx hb dX4_back_0 rfl (lv_at hl 0 rfl) ?_
  refine lv_iload_n hx hb dX4_back_1 rfl (lv_at hl 1 rfl) ?_
  refine lv_iload_n hx hb dX4_back_2 rfl (lv_at hl 2 rfl) ?_
  refine lv_iconst (v := 0) hx hb dX4_back_3 (by decide) ?_
  refine og_ciP (F := 0) (og_runV (C := RX4) (T := TX4) (N := 19) (g := 10) (i := 0) (As := [.int x1, .int x2, .int 0]) (rest := []) ⟨hx, hb, hml, hown, hts⟩ (kX4_isCell_n l D ca ad A st x1 x2 0 hn0 hn1) (cwV 3 hts gX4_back_X4_isCell rfl rfl rfl (by decide +kernel) ⟨Nat.le_of_ble_eq_true rfl, Nat.le_of_ble_eq_true rfl⟩) hC hP hS (ow_q10_0) rfl rfl rfl hl.1 rfl (Nat.le_of_ble_eq_true rfl) dX4_back_4 ⟨Nat.zero_le _, Nat.zero_le _⟩) hS (fun H locs hP hS => ?_)
  refine lv_if_ne (tgt := 12) hx hb dX4_back_7 (by decide) (fun c => absurd (by decide) c) (fun _ => ?_)
  refine lv_iconst (v := (-1)) hx hb dX4_back_10 (by decide) ?_
  exact W.iret (v := (-1)) hx hb hr (fun t ht hW => ⟨⟨(-1), st, rfl, (by simp only [fX4_back_n]), ow_Bi ht hP⟩, hS.F ht⟩) hS.2.2 dX4_back_11
