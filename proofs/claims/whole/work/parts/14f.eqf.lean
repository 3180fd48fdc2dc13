
theorem ck_0 {a : Int32} {n : Nat} {m : Int32} (h : cellok a (n + 1)) (hm : m = nI n) (hn : n < 2 ^ 31 - 1) : ((if a < 0 then (0 : Int32) else if m < a then 0 else 1) = 0) ↔ a = (-1) := by
  rcases h with rfl | h
  · exact ⟨fun _ => rfl, fun _ => by rw [if_pos (by decide)]⟩
  · obtain ⟨j, hj, rfl⟩ := vp_in_of h (by omega)
    have h2 : ¬ nI n < nI j := Int32.not_lt.mpr (nI_le (show j ≤ n by omega) (by omega))
    rw [if_neg (nI_pos (by omega)), hm, if_neg h2]
    exact ⟨fun q => absurd q (by decide), fun q => absurd q (fun q => nI_pos (n := j) (by omega) (by rw [q]; decide))⟩
def inR (b z : Int32) : Int32 := if b < 0 then 0 else if z < b then 0 else 1
def wgC0 (a b c : Int32) : Int32 := if inR a 4 = 0 then 0 else if inR b 1000 = 0 then 1 else if inR c 25 = 0 then 2 else (-1)
def wgM0 (a b c : Int32) : Int32 := if a = (-1) then 0 else if inR b 1000 = 0 then 1 else if c = (-1) then 2 else (-4)
def wgX (z b c d e : Int32) : Int32 := if inR b z = 0 then 1 else if inR c z = 0 then 2 else if inR d 1000000 = 0 then 3 else if b = c then 2 else e
def wgC1 (z a b c d : Int32) : Int32 := if inR a 6 = 0 then 0 else wgX z b c d (-1)
def wgM1 (z a b c d : Int32) : Int32 := if a = (-1) then 0 else wgX z b c d (-4)
theorem wg_0 {a b c : Int32} (h0 : cellok a 5) (h2 : cellok c 26) : (wgC0 a b c = (-1) ∧ wgM0 a b c = (-4) ∧ ¬ a = (-1)) ∨ ∃ d, wgC0 a b c = d ∧ wgM0 a b c = d ∧ ¬ d = (-1) ∧ ¬ d = (-4) := by
  have q0 : inR a 4 = 0 ↔ a = (-1) := ck_0 (n := 4) (m := 4) h0 rfl (by decide)
  have q2 : inR c 25 = 0 ↔ c = (-1) := ck_0 (n := 25) (m := 25) h2 rfl (by decide)
  unfold wgC0 wgM0
  by_cases c0 : a = (-1)
  · rw [if_pos (q0.mpr c0), if_pos c0]
    exact Or.inr ⟨0, rfl, rfl, by decide, by decide⟩
  · rw [if_neg (fun q => c0 (q0.mp q)), if_neg c0]
    by_cases c1 : inR b 1000 = 0
    · rw [if_pos c1, if_pos c1]
      exact Or.inr ⟨1, rfl, rfl, by decide, by decide⟩
    · rw [if_neg c1, if_neg c1]
      by_cases c2 : c = (-1)
      · rw [if_pos (q2.mpr c2), if_pos c2]
        exact Or.inr ⟨2, rfl, rfl, by decide, by decide⟩
      · rw [if_neg (fun q => c2 (q2.mp q)), if_neg c2]
        exact Or.inl ⟨rfl, rfl, c0⟩
theorem wg_X (z b c d : Int32) : (∀ e, wgX z b c d e = e) ∨ ∃ k, (∀ e, wgX z b c d e = k) ∧ ¬ k = (-1) ∧ ¬ k = (-4) := by
  unfold wgX
  by_cases c1 : inR b z = 0
  · exact Or.inr ⟨1, fun e => by rw [if_pos c1], by decide, by decide⟩
  · by_cases c2 : inR c z = 0
    · exact Or.inr ⟨2, fun e => by rw [if_neg c1, if_pos c2], by decide, by decide⟩
    · by_cases c3 : inR d 1000000 = 0
      · exact Or.inr ⟨3, fun e => by rw [if_neg c1, if_neg c2, if_pos c3], by decide, by decide⟩
      · by_cases c4 : b = c
        · exact Or.inr ⟨2, fun e => by rw [if_neg c1, if_neg c2, if_neg c3, if_pos c4], by decide, by decide⟩
        · exact Or.inl (fun e => by rw [if_neg c1, if_neg c2, if_neg c3, if_neg c4])
theorem wg_1 {z a b c d : Int32} (h0 : cellok a 7) : (wgC1 z a b c d = (-1) ∧ wgM1 z a b c d = (-4) ∧ ¬ a = (-1)) ∨ ∃ k, wgC1 z a b c d = k ∧ wgM1 z a b c d = k ∧ ¬ k = (-1) ∧ ¬ k = (-4) := by
  have q0 : inR a 6 = 0 ↔ a = (-1) := ck_0 (n := 6) (m := 6) h0 rfl (by decide)
  unfold wgC1 wgM1
  by_cases c0 : a = (-1)
  · rw [if_pos (q0.mpr c0), if_pos c0]
    exact Or.inr ⟨0, rfl, rfl, by decide, by decide⟩
  · rw [if_neg (fun q => c0 (q0.mp q)), if_neg c0]
    rcases wg_X z b c d with e | ⟨k, e, n1, n2⟩
    · exact Or.inl ⟨e _, e _, c0⟩
    · exact Or.inr ⟨k, e _, e _, n1, n2⟩
theorem hO_00 (s : ow_St) : fX3_highestOf_0 s 0 = 4 := by unfold fX3_highestOf_0; rw [if_pos rfl]
theorem hO_01 (s : ow_St) : fX3_highestOf_0 s 1 = 1000 := by unfold fX3_highestOf_0; rw [if_neg (by decide), if_neg (by decide), if_pos rfl]
theorem hO_02 (s : ow_St) : fX3_highestOf_0 s 2 = 25 := by unfold fX3_highestOf_0; rw [if_neg (by decide), if_pos rfl]
theorem hO_10 (s : ow_St) : fX3_highestOf_1 s 0 = 6 := by unfold fX3_highestOf_1; rw [if_pos rfl]
theorem hO_11 (s : ow_St) : fX3_highestOf_1 s 1 = s.1 4 0 - 1 := by unfold fX3_highestOf_1; rw [if_neg (by decide), if_neg (by decide)]
theorem hO_12 (s : ow_St) : fX3_highestOf_1 s 2 = s.1 4 0 - 1 := by unfold fX3_highestOf_1; rw [if_neg (by decide), if_neg (by decide)]
theorem hO_13 (s : ow_St) : fX3_highestOf_1 s 3 = 1000000 := by unfold fX3_highestOf_1; rw [if_neg (by decide), if_pos rfl]
theorem wC_0 (s : ow_St) : fX3_wrongItem_0 s = wgC0 (s.1 103 0) (s.1 103 1) (s.1 103 2) := by
  unfold fX3_wrongItem_0
  rw [hO_00, hO_01, hO_02]
  rfl
theorem wC_1 (s : ow_St) : fX3_wrongItem_1 s = wgC1 (s.1 4 0 - 1) (s.1 103 0) (s.1 103 1) (s.1 103 2) (s.1 103 3) := by
  unfold fX3_wrongItem_1
  rw [hO_10, hO_11, hO_12, hO_13]
  rfl
theorem wM12_0 (s : ow_St) : fX4_wrong_0_12 s = wgM0 (s.1 60 0) (s.1 60 1) (s.1 60 2) := rfl
theorem wM12_1 (s : ow_St) : fX4_wrong_1_12 s = wgM1 (s.1 56 0 - 1) (s.1 60 0) (s.1 60 1) (s.1 60 2) (s.1 60 3) := rfl
theorem wM9x_0 (s : ow_St) (x : Int32) : fX4_wrong_0_9 s x = wgM0 (s.1 57 x.toNatClampNeg) (s.1 57 (x + 1).toNatClampNeg) (s.1 57 (x + 2).toNatClampNeg) := rfl
theorem wM9x_1 (s : ow_St) (x : Int32) : fX4_wrong_1_9 s x = wgM1 (s.1 56 0 - 1) (s.1 57 x.toNatClampNeg) (s.1 57 (x + 1).toNatClampNeg) (s.1 57 (x + 2).toNatClampNeg) (s.1 57 (x + 3).toNatClampNeg) := rfl
theorem con_ok {st : ow_St} (h : rl_con st) {k : Nat} (hk : k < 3) (x : Int32) : cellok (fX0_constantOf st k x) (mn k) := by
  by_cases c : fX0_has st k x = 0
  · unfold fX0_constantOf
    rw [if_pos c]
    exact Or.inl rfl
  · obtain ⟨j, c', hj, hc', -, -, -, e⟩ := con_at h hk c
    rw [e]
    exact Or.inr (vp_in_nI hc' (ow_mn k))
theorem con_dr {s : ow_St} {i k : Nat} {v x : Int32} : fX0_constantOf (ow_si s 103 i v) k x = fX0_constantOf s k x := by
  unfold fX0_constantOf
  rw [ow_si_ne (by omega)]
  rfl
theorem con_60 {s : ow_St} {i : Nat} {v k x : Int32} : fX4_constant (ow_si s 60 i v) k x = fX4_constant s k x := con_row (ow_si_ne (by decide))
theorem in4 {x : Int32} (h : vp_in x 4) : x = 0 ∨ x = 1 ∨ x = 2 ∨ x = 3 := by
  obtain ⟨j, hj, rfl⟩ := vp_in_of h (by decide)
  rcases (show j = 0 ∨ j = 1 ∨ j = 2 ∨ j = 3 by omega) with rfl | rfl | rfl | rfl
  · exact Or.inl rfl
  · exact Or.inr (Or.inl rfl)
  · exact Or.inr (Or.inr (Or.inl rfl))
  · exact Or.inr (Or.inr (Or.inr rfl))
theorem tc_00 (s : ow_St) (x : Int32) : fX3_toCell_0 s 0 x = fX0_constantOf s 0 x := by unfold fX3_toCell_0; rw [if_pos rfl]
theorem tc_01 (s : ow_St) (x : Int32) : fX3_toCell_0 s 1 x = x := by unfold fX3_toCell_0; rw [if_neg (by decide), if_neg (by decide)]
theorem tc_02 (s : ow_St) (x : Int32) : fX3_toCell_0 s 2 x = fX0_constantOf s 2 x := by unfold fX3_toCell_0; rw [if_neg (by decide), if_pos rfl]
theorem tc_03 (s : ow_St) (x : Int32) : fX3_toCell_0 s 3 x = x := by unfold fX3_toCell_0; rw [if_neg (by decide), if_neg (by decide)]
theorem tc_10 (s : ow_St) (x : Int32) : fX3_toCell_1 s 0 x = fX0_constantOf s 1 x := by unfold fX3_toCell_1; rw [if_pos rfl]
theorem tc_11 (s : ow_St) (x : Int32) : fX3_toCell_1 s 1 x = x := by unfold fX3_toCell_1; rw [if_neg (by decide)]
theorem tc_12 (s : ow_St) (x : Int32) : fX3_toCell_1 s 2 x = x := by unfold fX3_toCell_1; rw [if_neg (by decide)]
theorem tc_13 (s : ow_St) (x : Int32) : fX3_toCell_1 s 3 x = x := by unfold fX3_toCell_1; rw [if_neg (by decide)]
theorem fc_0 {st : ow_St} (h : rl_cod st) {x v : Int32} (h0 : x = 0 → cellok v 5) (h2 : x = 2 → cellok v 26) : fX3_fromCell_0 st x v = fX4_toldOf_0 st x v := by
  unfold fX3_fromCell_0 fX4_toldOf_0 fX4_kindOf_0
  by_cases c0 : x = 0
  · rw [if_pos c0, if_pos c0, if_neg (by decide)]
    exact cod_eq h (k := 0) (by decide) (h0 c0)
  · rw [if_neg c0, if_neg c0]
    by_cases c2 : x = 2
    · rw [if_pos c2, if_pos c2, if_neg (by decide)]
      exact cod_eq h (k := 2) (by decide) (h2 c2)
    · rw [if_neg c2, if_neg c2, if_pos rfl]
theorem fc_1 {st : ow_St} (h : rl_cod st) {x v : Int32} (h0 : x = 0 → cellok v 7) : fX3_fromCell_1 st x v = fX4_toldOf_1 st x v := by
  unfold fX3_fromCell_1 fX4_toldOf_1 fX4_kindOf_1
  by_cases c0 : x = 0
  · rw [if_pos c0, if_pos c0, if_neg (by decide)]
    exact cod_eq h (k := 1) (by decide) (h0 c0)
  · rw [if_neg c0, if_neg c0, if_pos rfl]
theorem tk12 (s : ow_St) (t : Int32) : fX4_take_12 s t = (ow_si (ow_si (ow_si (ow_si (ow_si s 61 2 t) 58 0 (s.1 60 0)) 58 1 (s.1 60 1)) 58 2 (s.1 60 2)) 58 3 (s.1 60 3)) := by
  unfold fX4_take_12
  simp (disch := omega) only [ow_si_ne]

theorem ix_0b {r : Nat} (hr : r < 30) : (0 + 4 * nI r : Int32).toNatClampNeg = 4 * r := by
  rw [mul4, show (0 : Int32) = nI 0 from rfl, nI_add, nI_clamp (by omega)]
  omega
theorem ix_00 {r : Nat} (hr : r < 30) : (0 + 4 * nI r + 0 : Int32).toNatClampNeg = 4 * r := by
  rw [show (0 + 4 * nI r + 0 : Int32) = nI (4 * r + 0) from ixA r 0, nI_clamp (by omega)]
  rfl
theorem ix_01 {r : Nat} (hr : r < 30) : (0 + 4 * nI r + 1 : Int32).toNatClampNeg = 4 * r + 1 := by
  rw [show (0 + 4 * nI r + 1 : Int32) = nI (4 * r + 1) from ixA r 1, nI_clamp (by omega)]
theorem ix_02 {r : Nat} (hr : r < 30) : (0 + 4 * nI r + 2 : Int32).toNatClampNeg = 4 * r + 2 := by
  rw [show (0 + 4 * nI r + 2 : Int32) = nI (4 * r + 2) from ixA r 2, nI_clamp (by omega)]
theorem ix_03 {r : Nat} (hr : r < 30) : (0 + 4 * nI r + 3 : Int32).toNatClampNeg = 4 * r + 3 := by
  rw [show (0 + 4 * nI r + 3 : Int32) = nI (4 * r + 3) from ixA r 3, nI_clamp (by omega)]
theorem hr_0 {st z : ow_St} {n : Nat} (hn : n ≤ 30) (e : st.1 4 0 = nI n) (e2 : z.1 56 0 = nI n) (x : Int32) : fX2_hasRecord_0 st x = fX4_isIn z x 0 (z.1 56 0 - 1) := by
  rw [e2, isIn_n1 hn]
  unfold fX2_hasRecord_0
  rw [e]
theorem hi_0 {st z : ow_St} (x : Int32) : fX2_hasItem_0 st x = fX4_isIn z x 0 2 := by
  have e : ((2 : Int32) < x) ↔ 3 ≤ x := I_lt_le (by decide)
  unfold fX2_hasItem_0 fX4_isIn
  by_cases c1 : x < 0
  · rw [if_pos c1, if_pos c1]
  · rw [if_neg c1, if_neg c1]
    by_cases c2 : (3 : Int32) ≤ x
    · rw [if_pos c2, if_pos (e.mpr c2)]
    · rw [if_neg c2, if_neg (fun q => c2 (e.mp q))]
theorem eq_cell_0 {st : ow_St} (h : RLs st) (x2 x3 : Int32) : fX3_cell st 0 x2 x3 = fX4_cell_0 st x2 x3 := by
  obtain ⟨e, n, hn, e2⟩ := h.2.2.2.2.2.2.2.1 0 (by decide)
  unfold fX3_cell fX4_cell_0 fX4_isCell_0
  rw [if_pos rfl, hr_0 (z := st) hn (e.trans e2) e2, hi_0 (z := st)]
  by_cases c1 : fX4_isIn st x2 0 (st.1 56 0 - 1) = 0
  · rw [if_pos c1, if_pos c1, if_pos rfl]
  · rw [if_neg c1, if_neg c1]
    by_cases c2 : fX4_isIn st x3 0 2 = 0
    · rw [if_pos c2, if_pos c2, if_pos rfl]
    · rw [if_neg c2, if_neg c2, if_neg (by decide)]
      obtain ⟨r, hr, rfl⟩ := rc_of (t := 0) ((RL_mok h).2.2.1 0 (by decide)) c1
      obtain ⟨⟨q0, q1, q2⟩, ⟨p0, p1, p2, p3⟩, k0, k2, k1⟩ := h.2.2.2.2.2.2.2.2.1 r hr
      rcases in3 (le_in (n := 2) rfl (by decide) (isIn_t c2)) with rfl | rfl | rfl
      · rw [ix_00 hr, nI_clamp (by omega), show (102 + 4 * (4 * 0 + (0 : Int32).toNatClampNeg)) = 102 from rfl, q0]
        exact fc_0 h.2.1 (fun _ => k0) (fun q => absurd q (by decide))
      · rw [ix_01 hr, nI_clamp (by omega), show (102 + 4 * (4 * 0 + (1 : Int32).toNatClampNeg)) = 106 from rfl, q1]
        exact fc_0 h.2.1 (fun q => absurd q (by decide)) (fun q => absurd q (by decide))
      · rw [ix_02 hr, nI_clamp (by omega), show (102 + 4 * (4 * 0 + (2 : Int32).toNatClampNeg)) = 110 from rfl, q2]
        exact fc_0 h.2.1 (fun q => absurd q (by decide)) (fun _ => k2)
theorem eq_part_0 {st : ow_St} (h : RLs st) (x1 : Int32) (hp : st.2.2 0 = 1) : fX3_part_0 st x1 = fX4_part_0 st x1 := by
  obtain ⟨e, z⟩ | ⟨e, f, g, k0, k2⟩ | ⟨e, f, g, k1⟩ := h.2.2.2.2.2.2.2.2.2
  · exact absurd (e.symm.trans hp) (by decide)
  · unfold fX3_part_0 fX4_part_0
    rw [hi_0 (z := st)]
    by_cases c2 : fX4_isIn st x1 0 2 = 0
    · rw [if_pos c2, if_pos c2]
    · rw [if_neg c2, if_neg c2]
      rcases in3 (le_in (n := 2) rfl (by decide) (isIn_t c2)) with rfl | rfl | rfl
      · rw [show (0 : Int32).toNatClampNeg = 0 from rfl, g 0 (by decide)]
        exact fc_0 h.2.1 (fun _ => k0) (fun q => absurd q (by decide))
      · rw [show (1 : Int32).toNatClampNeg = 1 from rfl, g 1 (by decide)]
        exact fc_0 h.2.1 (fun q => absurd q (by decide)) (fun q => absurd q (by decide))
      · rw [show (2 : Int32).toNatClampNeg = 2 from rfl, g 2 (by decide)]
        exact fc_0 h.2.1 (fun q => absurd q (by decide)) (fun _ => k2)
  · exact absurd (e.symm.trans hp) (by decide)
theorem ix_1b {r : Nat} (hr : r < 30) : (120 + 4 * nI r : Int32).toNatClampNeg = 120 + 4 * r := by
  rw [mul4, show (120 : Int32) = nI 120 from rfl, nI_add, nI_clamp (by omega)]
theorem ix_10 {r : Nat} (hr : r < 30) : (120 + 4 * nI r + 0 : Int32).toNatClampNeg = 120 + 4 * r := by
  rw [show (120 + 4 * nI r + 0 : Int32) = nI (120 + 4 * r + 0) from ixB r 0, nI_clamp (by omega)]
  rfl
theorem ix_11 {r : Nat} (hr : r < 30) : (120 + 4 * nI r + 1 : Int32).toNatClampNeg = 120 + 4 * r + 1 := by
  rw [show (120 + 4 * nI r + 1 : Int32) = nI (120 + 4 * r + 1) from ixB r 1, nI_clamp (by omega)]
theorem ix_12 {r : Nat} (hr : r < 30) : (120 + 4 * nI r + 2 : Int32).toNatClampNeg = 120 + 4 * r + 2 := by
  rw [show (120 + 4 * nI r + 2 : Int32) = nI (120 + 4 * r + 2) from ixB r 2, nI_clamp (by omega)]
theorem ix_13 {r : Nat} (hr : r < 30) : (120 + 4 * nI r + 3 : Int32).toNatClampNeg = 120 + 4 * r + 3 := by
  rw [show (120 + 4 * nI r + 3 : Int32) = nI (120 + 4 * r + 3) from ixB r 3, nI_clamp (by omega)]
theorem hr_1 {st z : ow_St} {n : Nat} (hn : n ≤ 30) (e : st.1 4 1 = nI n) (e2 : z.1 56 1 = nI n) (x : Int32) : fX2_hasRecord_1 st x = fX4_isIn z x 0 (z.1 56 1 - 1) := by
  rw [e2, isIn_n1 hn]
  unfold fX2_hasRecord_1
  rw [e]
theorem hi_1 {st z : ow_St} (x : Int32) : fX2_hasItem_1 st x = fX4_isIn z x 0 3 := by
  have e : ((3 : Int32) < x) ↔ 4 ≤ x := I_lt_le (by decide)
  unfold fX2_hasItem_1 fX4_isIn
  by_cases c1 : x < 0
  · rw [if_pos c1, if_pos c1]
  · rw [if_neg c1, if_neg c1]
    by_cases c2 : (4 : Int32) ≤ x
    · rw [if_pos c2, if_pos (e.mpr c2)]
    · rw [if_neg c2, if_neg (fun q => c2 (e.mp q))]
theorem eq_cell_1 {st : ow_St} (h : RLs st) (x2 x3 : Int32) : fX3_cell st 1 x2 x3 = fX4_cell_1 st x2 x3 := by
  obtain ⟨e, n, hn, e2⟩ := h.2.2.2.2.2.2.2.1 1 (by decide)
  unfold fX3_cell fX4_cell_1 fX4_isCell_1
  rw [if_neg (by decide), if_pos rfl, hr_1 (z := st) hn (e.trans e2) e2, hi_1 (z := st)]
  by_cases c1 : fX4_isIn st x2 0 (st.1 56 1 - 1) = 0
  · rw [if_pos c1, if_pos c1, if_pos rfl]
  · rw [if_neg c1, if_neg c1]
    by_cases c2 : fX4_isIn st x3 0 3 = 0
    · rw [if_pos c2, if_pos c2, if_pos rfl]
    · rw [if_neg c2, if_neg c2, if_neg (by decide)]
      obtain ⟨r, hr, rfl⟩ := rc_of (t := 1) ((RL_mok h).2.2.1 1 (by decide)) c1
      obtain ⟨⟨q0, q1, q2⟩, ⟨p0, p1, p2, p3⟩, k0, k2, k1⟩ := h.2.2.2.2.2.2.2.2.1 r hr
      rcases in4 (le_in (n := 3) rfl (by decide) (isIn_t c2)) with rfl | rfl | rfl | rfl
      · rw [ix_10 hr, nI_clamp (by omega), show (102 + 4 * (4 * 1 + (0 : Int32).toNatClampNeg)) = 118 from rfl, p0]
        exact fc_1 h.2.1 (fun _ => k1)
      · rw [ix_11 hr, nI_clamp (by omega), show (102 + 4 * (4 * 1 + (1 : Int32).toNatClampNeg)) = 122 from rfl, p1]
        exact fc_1 h.2.1 (fun q => absurd q (by decide))
      · rw [ix_12 hr, nI_clamp (by omega), show (102 + 4 * (4 * 1 + (2 : Int32).toNatClampNeg)) = 126 from rfl, p2]
        exact fc_1 h.2.1 (fun q => absurd q (by decide))
      · rw [ix_13 hr, nI_clamp (by omega), show (102 + 4 * (4 * 1 + (3 : Int32).toNatClampNeg)) = 130 from rfl, p3]
        exact fc_1 h.2.1 (fun q => absurd q (by decide))
theorem eq_part_1 {st : ow_St} (h : RLs st) (x1 : Int32) (hp : st.2.2 0 = 2) : fX3_part_1 st x1 = fX4_part_1 st x1 := by
  obtain ⟨e, z⟩ | ⟨e, f, g, k0, k2⟩ | ⟨e, f, g, k1⟩ := h.2.2.2.2.2.2.2.2.2
  · exact absurd (e.symm.trans hp) (by decide)
  · exact absurd (e.symm.trans hp) (by decide)
  · unfold fX3_part_1 fX4_part_1
    rw [hi_1 (z := st)]
    by_cases c2 : fX4_isIn st x1 0 3 = 0
    · rw [if_pos c2, if_pos c2]
    · rw [if_neg c2, if_neg c2]
      rcases in4 (le_in (n := 3) rfl (by decide) (isIn_t c2)) with rfl | rfl | rfl | rfl
      · rw [show (0 : Int32).toNatClampNeg = 0 from rfl, g 0 (by decide)]
        exact fc_1 h.2.1 (fun _ => k1)
      · rw [show (1 : Int32).toNatClampNeg = 1 from rfl, g 1 (by decide)]
        exact fc_1 h.2.1 (fun q => absurd q (by decide))
      · rw [show (2 : Int32).toNatClampNeg = 2 from rfl, g 2 (by decide)]
        exact fc_1 h.2.1 (fun q => absurd q (by decide))
      · rw [show (3 : Int32).toNatClampNeg = 3 from rfl, g 3 (by decide)]
        exact fc_1 h.2.1 (fun q => absurd q (by decide))
theorem eq_cell_n {st : ow_St} (h : RLs st) (x1 x2 x3 : Int32) (hn0 : ¬ x1 = 0) (hn1 : ¬ x1 = 1) : fX3_cell st x1 x2 x3 = fX4_cell_n st x1 x2 x3 := by
  unfold fX3_cell fX4_cell_n
  rw [if_neg hn0, if_neg hn1]
theorem n_record {st : ow_St} {x1 x2 x3 x4 x5 : Int32} (hn0 : ¬ x1 = 0) (hn1 : ¬ x1 = 1) : fX3_record st x1 x2 x3 x4 x5 = ((-1), st) := by
  unfold fX3_record
  rw [if_neg hn0, if_neg hn1]
theorem mk_record_n {st : ow_St} (h : RLs st) (x1 x2 x3 x4 x5 : Int32) (hn0 : ¬ x1 = 0) (hn1 : ¬ x1 = 1) : sameM st (fX3_record st x1 x2 x3 x4 x5).2 := by
  rw [n_record hn0 hn1]
  exact same_rf st
theorem eq_record_n {st : ow_St} (h : RLs st) (x1 x2 x3 x4 x5 : Int32) (hn0 : ¬ x1 = 0) (hn1 : ¬ x1 = 1) : (fX3_record st x1 x2 x3 x4 x5).1 = (fX4_record_n (fX3_record st x1 x2 x3 x4 x5).2 x1 x2 x3 x4 x5).1 ∧ RLs (fX4_record_n (fX3_record st x1 x2 x3 x4 x5).2 x1 x2 x3 x4 x5).2 := by
  rw [n_record hn0 hn1]
  exact ⟨rfl, h⟩
theorem n_lay {st : ow_St} {x1 x2 x3 x4 : Int32} (hn0 : ¬ x1 = 0) (hn1 : ¬ x1 = 1) : fX3_lay st x1 x2 x3 x4 = ((-1), st) := by
  unfold fX3_lay
  rw [if_neg hn0, if_neg hn1]
theorem mk_lay_n {st : ow_St} (h : RLs st) (x1 x2 x3 x4 : Int32) (hn0 : ¬ x1 = 0) (hn1 : ¬ x1 = 1) : sameM st (fX3_lay st x1 x2 x3 x4).2 := by
  rw [n_lay hn0 hn1]
  exact same_rf st
theorem eq_lay_n {st : ow_St} (h : RLs st) (x1 x2 x3 x4 : Int32) (hn0 : ¬ x1 = 0) (hn1 : ¬ x1 = 1) : (fX3_lay st x1 x2 x3 x4).1 = (fX4_lay_n (fX3_lay st x1 x2 x3 x4).2 x1 x2 x3 x4).1 ∧ RLs (fX4_lay_n (fX3_lay st x1 x2 x3 x4).2 x1 x2 x3 x4).2 := by
  rw [n_lay hn0 hn1]
  exact ⟨rfl, h⟩
theorem n_back {st : ow_St} {x1 x2 : Int32} (hn0 : ¬ x1 = 0) (hn1 : ¬ x1 = 1) : fX3_back st x1 x2 = ((-1), st) := by
  unfold fX3_back
  rw [if_neg hn0, if_neg hn1]
theorem mk_back_n {st : ow_St} (h : RLs st) (x1 x2 : Int32) (hn0 : ¬ x1 = 0) (hn1 : ¬ x1 = 1) : sameM st (fX3_back st x1 x2).2 := by
  rw [n_back hn0 hn1]
  exact same_rf st
theorem eq_back_n {st : ow_St} (h : RLs st) (x1 x2 : Int32) (hn0 : ¬ x1 = 0) (hn1 : ¬ x1 = 1) : (fX3_back st x1 x2).1 = (fX4_back_n (fX3_back st x1 x2).2 x1 x2).1 ∧ RLs (fX4_back_n (fX3_back st x1 x2).2 x1 x2).2 := by
  rw [n_back hn0 hn1]
  exact ⟨rfl, h⟩
theorem n_filter {st : ow_St} {x1 x2 x3 x4 x5 : Int32} : fX3_filter_n st x1 x2 x3 x4 x5 = ((-1), st) := by
  unfold fX3_filter_n
  by_cases c : x2 < 0 ∨ 10 ≤ x2
  · rw [if_pos c]
  · rw [if_neg c]
theorem mk_filter_n {st : ow_St} (h : RLs st) (x1 x2 x3 x4 x5 : Int32) (hn0 : ¬ x1 = 0) (hn1 : ¬ x1 = 1) : sameM st (fX3_filter_n st x1 x2 x3 x4 x5).2 := by
  rw [n_filter]
  exact same_rf st
theorem eq_filter_n {st : ow_St} (h : RLs st) (x1 x2 x3 x4 x5 : Int32) (hn0 : ¬ x1 = 0) (hn1 : ¬ x1 = 1) : (fX3_filter_n st x1 x2 x3 x4 x5).1 = (fX4_filter_n (fX3_filter_n st x1 x2 x3 x4 x5).2 x1 x2 x3 x4 x5).1 ∧ RLs (fX4_filter_n (fX3_filter_n st x1 x2 x3 x4 x5).2 x1 x2 x3 x4 x5).2 := by
  rw [n_filter]
  exact ⟨rfl, h⟩
theorem mk_sum_n {st : ow_St} (h : RLs st) (x1 : Int32) (hn0 : ¬ x1 = 0) (hn1 : ¬ x1 = 1) : sameM st (fX3_sum_n st x1).2 := same_rf st
theorem eq_sum_n {st : ow_St} (h : RLs st) (x1 : Int32) (hn0 : ¬ x1 = 0) (hn1 : ¬ x1 = 1) : (fX3_sum_n st x1).1 = (fX4_sum_n (fX3_sum_n st x1).2 x1).1 ∧ RLs (fX4_sum_n (fX3_sum_n st x1).2 x1).2 := ⟨rfl, h⟩
