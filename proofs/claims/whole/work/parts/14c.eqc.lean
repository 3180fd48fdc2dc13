
theorem con_c {st st' : ow_St} (h : rl_con st) (e1 : ∀ k, k < 3 → st'.1 (100 + 4 * k) = st.1 (100 + 4 * k)) (e2 : st'.1 51 = st.1 51) : rl_con st' := fun k hk j hj => by
  rw [e1 k hk, e2]
  exact h k hk j hj
theorem cod_c {st st' : ow_St} (h : rl_cod st) (e1 : ∀ k, k < 3 → st'.1 (101 + 4 * k) = st.1 (101 + 4 * k)) (e2 : st'.1 50 = st.1 50) : rl_cod st' := fun k hk j hj => by
  rw [e1 k hk, e2]
  exact h k hk j hj
theorem inj_c {st st' : ow_St} (h : rl_inj st) (e2 : st'.1 51 = st.1 51) : rl_inj st' := by
  unfold rl_inj
  rw [e2]
  exact h
theorem sta_c {st st' : ow_St} (h : rl_sta st) (e1 : st'.1 1 = st.1 1) (e2 : st'.1 2 = st.1 2) (e3 : st'.1 52 = st.1 52) (e4 : st'.1 53 = st.1 53) : rl_sta st' := by
  unfold rl_sta
  rw [e1, e2, e3, e4]
  exact h
theorem num_c {st st' : ow_St} (h : rl_num st) (e1 : st'.2.1 0 = st.2.1 0) (e2 : st'.2.1 1 = st.2.1 1) (e3 : st'.1 0 0 = st.1 0 0) (e4 : st'.1 0 1 = st.1 0 1) (e5 : st'.1 61 0 = st.1 61 0) (e6 : st'.1 61 1 = st.1 61 1) : rl_num st' := by
  unfold rl_num
  rw [e1, e2, e3, e4, e5, e6]
  exact h
theorem fnd_c {st st' : ow_St} (h : rl_fnd st) (e1 : st'.1 0 2 = st.1 0 2) (e2 : st'.1 61 3 = st.1 61 3) (e3 : st'.1 111 = st.1 111) (e4 : st'.1 59 = st.1 59) : rl_fnd st' := by
  unfold rl_fnd
  rw [e1, e2, e3, e4]
  exact h
theorem set_c {st st' : ow_St} (h : rl_set st) (e1 : ∀ j, st'.2.2 (j + 1) = st.2.2 (j + 1)) (e2 : st'.1 54 = st.1 54) (e3 : st'.1 3 = st.1 3) (e4 : st'.1 55 = st.1 55) : rl_set st' := fun j hj => by
  rw [e1, e2, e3, e4]
  exact h j hj
theorem tab_c {st st' : ow_St} (h : rl_tab st) (e1 : st'.1 4 = st.1 4) (e2 : st'.1 56 = st.1 56) : rl_tab st' := by
  unfold rl_tab
  rw [e1, e2]
  exact h
theorem cel_c {st st' : ow_St} (h : rl_cel st) (e1 : st'.1 102 = st.1 102) (e2 : st'.1 106 = st.1 106) (e3 : st'.1 110 = st.1 110) (e4 : st'.1 118 = st.1 118) (e5 : st'.1 122 = st.1 122) (e6 : st'.1 126 = st.1 126) (e7 : st'.1 130 = st.1 130) (e8 : st'.1 57 = st.1 57) : rl_cel st' := by
  unfold rl_cel
  rw [e1, e2, e3, e4, e5, e6, e7, e8]
  exact h
theorem par_c {st st' : ow_St} (h : rl_par st) (e1 : st'.2.2 0 = st.2.2 0) (e2 : st'.1 61 2 = st.1 61 2) (e3 : st'.1 107 = st.1 107) (e4 : st'.1 58 = st.1 58) : rl_par st' := by
  unfold rl_par
  rw [e1, e2, e3, e4]
  exact h


theorem same_rf (st : ow_St) : sameM st st := ⟨fun _ _ _ => rfl, rfl, rfl⟩
theorem eq_about {st : ow_St} (h : RLs st) (x1 x2 : Int32) : fX3_about st x1 x2 = fX4_about st x1 x2 := by
  unfold fX3_about fX4_about
  by_cases hs : x1 < 0 ∨ 10 ≤ x1
  · rw [if_pos hs, if_pos (isS_y.mpr hs)]
  · rw [if_neg hs, if_neg (fun q => hs (isS_y.mp q))]
    obtain ⟨k1, k2, k3, k4⟩ := h.2.2.2.2.2.2.1 _ (setN_b hs)
    by_cases h0 : x2 = 0
    · subst h0
      rw [if_pos rfl, if_neg (by unfold fX4_isIn; decide), if_pos rfl]
      unfold fX1_size
      rw [k3]
      exact sz_eq k4
    · rw [if_neg h0]
      by_cases h1 : x2 = 1
      · subst h1
        rw [if_pos rfl, if_neg (by unfold fX4_isIn; decide), if_neg (by decide), k2]
      · rw [if_neg h1, if_pos]
        by_cases c : fX4_isIn st x2 0 1 = 0
        · exact c
        · obtain ⟨j, hj, e⟩ := vp_in_of (le_in (n := 1) rfl (by decide) (isIn_t c)) (by decide)
          rcases (show j = 0 ∨ j = 1 by omega) with rfl | rfl
          · exact absurd e h0
          · exact absurd e h1
theorem holds_at {st : ow_St} (h : RLs st) {j i : Nat} (hj : j < 10) (hi : i < mn (st.2.2 (j + 1))) : ∃ c', c' < 26 ∧ fX0_constantOf st (st.2.2 (j + 1)) (nI i) = nI c' ∧ fX4_constant st (st.1 54 j) (nI i) = nI c' ∧ fX1_holds st j (nI c') = (if (((st.1 55 j) >>> (nI c' &&& 31)) &&& 1) = 1 then 1 else 0) := by
  obtain ⟨k1, k2, k3, k4⟩ := h.2.2.2.2.2.2.1 j hj
  obtain ⟨j', c', hj', hc', e1, -, -, e3⟩ := con_at h.1 k1 (has_of (st := st) hi)
  have := mn_le (st.2.2 (j + 1))
  refine ⟨c', by omega, e3, ?_, ?_⟩
  · rw [k2, ← con_eq h.1 k1, e3]
  · unfold fX1_holds
    rw [if_neg (has_of hc'), k3]
theorem mem_loop {st : ow_St} (h : RLs st) {x1 x2 : Int32} (hs : ¬ (x1 < 0 ∨ 10 ≤ x1)) : ∀ n i w, i ≤ mn (st.2.2 (x1.toNatClampNeg + 1)) → mn (st.2.2 (x1.toNatClampNeg + 1)) < i + n → flX3_member st x1 x2 n i w = flX4_member st x1 x2 n i w := by
  obtain ⟨k1, k2, k3, k4⟩ := h.2.2.2.2.2.2.1 _ (setN_b hs)
  intro n
  induction n with
  | zero => intro i w h1 h2; omega
  | succ n ih =>
    intro i w hi hn
    unfold flX3_member flX4_member
    have e0 : ow_mny ((st.1 54 x1.toNatClampNeg).toNatClampNeg) = nI (mn (st.2.2 (x1.toNatClampNeg + 1))) := by
      rw [k2, kcl k1, mny_eq k1]
    rw [e0]
    by_cases c : nI (mn (st.2.2 (x1.toNatClampNeg + 1))) ≤ nI i
    · rw [if_pos c, if_pos c]
    · have hlt := ow_lt c hi (ow_mn _)
      obtain ⟨c', hc', e1, e2, e3⟩ := holds_at h (setN_b hs) hlt
      rw [if_neg c, if_neg c, e1, e2, e3]
      by_cases b : (((st.1 55 x1.toNatClampNeg) >>> (nI c' &&& 31)) &&& 1) = 1
      · rw [if_pos b, if_neg (by decide), if_pos b]
        by_cases q : w = x2
        · rw [if_pos q, if_pos q]
        · rw [if_neg q, if_neg q]
          exact ih _ _ (by omega) (by omega)
      · rw [if_neg b, if_pos rfl, if_neg b]
        exact ih _ _ (by omega) (by omega)
theorem eq_member {st : ow_St} (h : RLs st) (x1 x2 : Int32) : fX3_member st x1 x2 = fX4_member st x1 x2 := by
  unfold fX3_member fX4_member
  by_cases hs : x1 < 0 ∨ 10 ≤ x1
  · rw [if_pos hs, if_pos (isS_y.mpr hs)]
  · rw [if_neg hs, if_neg (fun q => hs (isS_y.mp q))]
    obtain ⟨k1, k2, k3, k4⟩ := h.2.2.2.2.2.2.1 _ (setN_b hs)
    rw [k2, kcl k1]
    exact mem_loop h hs _ 0 0 (Nat.zero_le _) (by omega)


/-- a set becomes another: on both sides -/
theorem set_put {st : ow_St} (h : RLs st) {j k : Nat} {v : Int32} (hk : k < 3) (hv : small26 v) : RLs (ow_si (ow_si (ow_si (ow_sr st (j + 1) k) 3 j v) 54 j (nI k)) 55 j v) := by
  refine ⟨(con_c h.1 (fun k hk => (by simp (disch := omega) only [ow_si_ne, ow_si_n2, ow_si_e, ow_sl_i, ow_sr_i, ow_si_l, ow_si_r, ow_sl_r, ow_sr_l, ow_sl_n, ow_sl_e, ow_sr_n, ow_sr_e])) (by simp (disch := omega) only [ow_si_ne, ow_si_n2, ow_si_e, ow_sl_i, ow_sr_i, ow_si_l, ow_si_r, ow_sl_r, ow_sr_l, ow_sl_n, ow_sl_e, ow_sr_n, ow_sr_e])), (cod_c h.2.1 (fun k hk => (by simp (disch := omega) only [ow_si_ne, ow_si_n2, ow_si_e, ow_sl_i, ow_sr_i, ow_si_l, ow_si_r, ow_sl_r, ow_sr_l, ow_sl_n, ow_sl_e, ow_sr_n, ow_sr_e])) (by simp (disch := omega) only [ow_si_ne, ow_si_n2, ow_si_e, ow_sl_i, ow_sr_i, ow_si_l, ow_si_r, ow_sl_r, ow_sr_l, ow_sl_n, ow_sl_e, ow_sr_n, ow_sr_e])), (inj_c h.2.2.1 (by simp (disch := omega) only [ow_si_ne, ow_si_n2, ow_si_e, ow_sl_i, ow_sr_i, ow_si_l, ow_si_r, ow_sl_r, ow_sr_l, ow_sl_n, ow_sl_e, ow_sr_n, ow_sr_e])), (sta_c h.2.2.2.1 (by simp (disch := omega) only [ow_si_ne, ow_si_n2, ow_si_e, ow_sl_i, ow_sr_i, ow_si_l, ow_si_r, ow_sl_r, ow_sr_l, ow_sl_n, ow_sl_e, ow_sr_n, ow_sr_e]) (by simp (disch := omega) only [ow_si_ne, ow_si_n2, ow_si_e, ow_sl_i, ow_sr_i, ow_si_l, ow_si_r, ow_sl_r, ow_sr_l, ow_sl_n, ow_sl_e, ow_sr_n, ow_sr_e]) (by simp (disch := omega) only [ow_si_ne, ow_si_n2, ow_si_e, ow_sl_i, ow_sr_i, ow_si_l, ow_si_r, ow_sl_r, ow_sr_l, ow_sl_n, ow_sl_e, ow_sr_n, ow_sr_e]) (by simp (disch := omega) only [ow_si_ne, ow_si_n2, ow_si_e, ow_sl_i, ow_sr_i, ow_si_l, ow_si_r, ow_sl_r, ow_sr_l, ow_sl_n, ow_sl_e, ow_sr_n, ow_sr_e])), (num_c h.2.2.2.2.1 (by simp (disch := omega) only [ow_si_ne, ow_si_n2, ow_si_e, ow_sl_i, ow_sr_i, ow_si_l, ow_si_r, ow_sl_r, ow_sr_l, ow_sl_n, ow_sl_e, ow_sr_n, ow_sr_e]) (by simp (disch := omega) only [ow_si_ne, ow_si_n2, ow_si_e, ow_sl_i, ow_sr_i, ow_si_l, ow_si_r, ow_sl_r, ow_sr_l, ow_sl_n, ow_sl_e, ow_sr_n, ow_sr_e]) (by simp (disch := omega) only [ow_si_ne, ow_si_n2, ow_si_e, ow_sl_i, ow_sr_i, ow_si_l, ow_si_r, ow_sl_r, ow_sr_l, ow_sl_n, ow_sl_e, ow_sr_n, ow_sr_e]) (by simp (disch := omega) only [ow_si_ne, ow_si_n2, ow_si_e, ow_sl_i, ow_sr_i, ow_si_l, ow_si_r, ow_sl_r, ow_sr_l, ow_sl_n, ow_sl_e, ow_sr_n, ow_sr_e]) (by simp (disch := omega) only [ow_si_ne, ow_si_n2, ow_si_e, ow_sl_i, ow_sr_i, ow_si_l, ow_si_r, ow_sl_r, ow_sr_l, ow_sl_n, ow_sl_e, ow_sr_n, ow_sr_e]) (by simp (disch := omega) only [ow_si_ne, ow_si_n2, ow_si_e, ow_sl_i, ow_sr_i, ow_si_l, ow_si_r, ow_sl_r, ow_sr_l, ow_sl_n, ow_sl_e, ow_sr_n, ow_sr_e])), (fnd_c h.2.2.2.2.2.1 (by simp (disch := omega) only [ow_si_ne, ow_si_n2, ow_si_e, ow_sl_i, ow_sr_i, ow_si_l, ow_si_r, ow_sl_r, ow_sr_l, ow_sl_n, ow_sl_e, ow_sr_n, ow_sr_e]) (by simp (disch := omega) only [ow_si_ne, ow_si_n2, ow_si_e, ow_sl_i, ow_sr_i, ow_si_l, ow_si_r, ow_sl_r, ow_sr_l, ow_sl_n, ow_sl_e, ow_sr_n, ow_sr_e]) (by simp (disch := omega) only [ow_si_ne, ow_si_n2, ow_si_e, ow_sl_i, ow_sr_i, ow_si_l, ow_si_r, ow_sl_r, ow_sr_l, ow_sl_n, ow_sl_e, ow_sr_n, ow_sr_e]) (by simp (disch := omega) only [ow_si_ne, ow_si_n2, ow_si_e, ow_sl_i, ow_sr_i, ow_si_l, ow_si_r, ow_sl_r, ow_sr_l, ow_sl_n, ow_sl_e, ow_sr_n, ow_sr_e])), ?_, (tab_c h.2.2.2.2.2.2.2.1 (by simp (disch := omega) only [ow_si_ne, ow_si_n2, ow_si_e, ow_sl_i, ow_sr_i, ow_si_l, ow_si_r, ow_sl_r, ow_sr_l, ow_sl_n, ow_sl_e, ow_sr_n, ow_sr_e]) (by simp (disch := omega) only [ow_si_ne, ow_si_n2, ow_si_e, ow_sl_i, ow_sr_i, ow_si_l, ow_si_r, ow_sl_r, ow_sr_l, ow_sl_n, ow_sl_e, ow_sr_n, ow_sr_e])), (cel_c h.2.2.2.2.2.2.2.2.1 (by simp (disch := omega) only [ow_si_ne, ow_si_n2, ow_si_e, ow_sl_i, ow_sr_i, ow_si_l, ow_si_r, ow_sl_r, ow_sr_l, ow_sl_n, ow_sl_e, ow_sr_n, ow_sr_e]) (by simp (disch := omega) only [ow_si_ne, ow_si_n2, ow_si_e, ow_sl_i, ow_sr_i, ow_si_l, ow_si_r, ow_sl_r, ow_sr_l, ow_sl_n, ow_sl_e, ow_sr_n, ow_sr_e]) (by simp (disch := omega) only [ow_si_ne, ow_si_n2, ow_si_e, ow_sl_i, ow_sr_i, ow_si_l, ow_si_r, ow_sl_r, ow_sr_l, ow_sl_n, ow_sl_e, ow_sr_n, ow_sr_e]) (by simp (disch := omega) only [ow_si_ne, ow_si_n2, ow_si_e, ow_sl_i, ow_sr_i, ow_si_l, ow_si_r, ow_sl_r, ow_sr_l, ow_sl_n, ow_sl_e, ow_sr_n, ow_sr_e]) (by simp (disch := omega) only [ow_si_ne, ow_si_n2, ow_si_e, ow_sl_i, ow_sr_i, ow_si_l, ow_si_r, ow_sl_r, ow_sr_l, ow_sl_n, ow_sl_e, ow_sr_n, ow_sr_e]) (by simp (disch := omega) only [ow_si_ne, ow_si_n2, ow_si_e, ow_sl_i, ow_sr_i, ow_si_l, ow_si_r, ow_sl_r, ow_sr_l, ow_sl_n, ow_sl_e, ow_sr_n, ow_sr_e]) (by simp (disch := omega) only [ow_si_ne, ow_si_n2, ow_si_e, ow_sl_i, ow_sr_i, ow_si_l, ow_si_r, ow_sl_r, ow_sr_l, ow_sl_n, ow_sl_e, ow_sr_n, ow_sr_e]) (by simp (disch := omega) only [ow_si_ne, ow_si_n2, ow_si_e, ow_sl_i, ow_sr_i, ow_si_l, ow_si_r, ow_sl_r, ow_sr_l, ow_sl_n, ow_sl_e, ow_sr_n, ow_sr_e])), (par_c h.2.2.2.2.2.2.2.2.2 (by simp (disch := omega) only [ow_si_ne, ow_si_n2, ow_si_e, ow_sl_i, ow_sr_i, ow_si_l, ow_si_r, ow_sl_r, ow_sr_l, ow_sl_n, ow_sl_e, ow_sr_n, ow_sr_e]) (by simp (disch := omega) only [ow_si_ne, ow_si_n2, ow_si_e, ow_sl_i, ow_sr_i, ow_si_l, ow_si_r, ow_sl_r, ow_sr_l, ow_sl_n, ow_sl_e, ow_sr_n, ow_sr_e]) (by simp (disch := omega) only [ow_si_ne, ow_si_n2, ow_si_e, ow_sl_i, ow_sr_i, ow_si_l, ow_si_r, ow_sl_r, ow_sr_l, ow_sl_n, ow_sl_e, ow_sr_n, ow_sr_e]) (by simp (disch := omega) only [ow_si_ne, ow_si_n2, ow_si_e, ow_sl_i, ow_sr_i, ow_si_l, ow_si_r, ow_sl_r, ow_sr_l, ow_sl_n, ow_sl_e, ow_sr_n, ow_sr_e]))⟩
  intro i hi
  by_cases e : i = j
  · subst e
    simp (disch := omega) only [ow_si_ne, ow_si_n2, ow_si_e, ow_si_l, ow_si_r, ow_sr_i, ow_sr_e]
    exact ⟨hk, trivial, trivial, hv⟩
  · simp (disch := omega) only [ow_si_ne, ow_si_n2, ow_si_e, ow_si_l, ow_si_r, ow_sr_i, ow_sr_n]
    exact h.2.2.2.2.2.2.1 i hi
theorem set_put2 {st : ow_St} (h : RLs st) {j : Nat} {v : Int32} (hv : small26 v) : RLs (ow_si (ow_si st 3 j v) 55 j v) := by
  refine ⟨(con_c h.1 (fun k hk => (by simp (disch := omega) only [ow_si_ne, ow_si_n2, ow_si_e, ow_sl_i, ow_sr_i, ow_si_l, ow_si_r, ow_sl_r, ow_sr_l, ow_sl_n, ow_sl_e, ow_sr_n, ow_sr_e])) (by simp (disch := omega) only [ow_si_ne, ow_si_n2, ow_si_e, ow_sl_i, ow_sr_i, ow_si_l, ow_si_r, ow_sl_r, ow_sr_l, ow_sl_n, ow_sl_e, ow_sr_n, ow_sr_e])), (cod_c h.2.1 (fun k hk => (by simp (disch := omega) only [ow_si_ne, ow_si_n2, ow_si_e, ow_sl_i, ow_sr_i, ow_si_l, ow_si_r, ow_sl_r, ow_sr_l, ow_sl_n, ow_sl_e, ow_sr_n, ow_sr_e])) (by simp (disch := omega) only [ow_si_ne, ow_si_n2, ow_si_e, ow_sl_i, ow_sr_i, ow_si_l, ow_si_r, ow_sl_r, ow_sr_l, ow_sl_n, ow_sl_e, ow_sr_n, ow_sr_e])), (inj_c h.2.2.1 (by simp (disch := omega) only [ow_si_ne, ow_si_n2, ow_si_e, ow_sl_i, ow_sr_i, ow_si_l, ow_si_r, ow_sl_r, ow_sr_l, ow_sl_n, ow_sl_e, ow_sr_n, ow_sr_e])), (sta_c h.2.2.2.1 (by simp (disch := omega) only [ow_si_ne, ow_si_n2, ow_si_e, ow_sl_i, ow_sr_i, ow_si_l, ow_si_r, ow_sl_r, ow_sr_l, ow_sl_n, ow_sl_e, ow_sr_n, ow_sr_e]) (by simp (disch := omega) only [ow_si_ne, ow_si_n2, ow_si_e, ow_sl_i, ow_sr_i, ow_si_l, ow_si_r, ow_sl_r, ow_sr_l, ow_sl_n, ow_sl_e, ow_sr_n, ow_sr_e]) (by simp (disch := omega) only [ow_si_ne, ow_si_n2, ow_si_e, ow_sl_i, ow_sr_i, ow_si_l, ow_si_r, ow_sl_r, ow_sr_l, ow_sl_n, ow_sl_e, ow_sr_n, ow_sr_e]) (by simp (disch := omega) only [ow_si_ne, ow_si_n2, ow_si_e, ow_sl_i, ow_sr_i, ow_si_l, ow_si_r, ow_sl_r, ow_sr_l, ow_sl_n, ow_sl_e, ow_sr_n, ow_sr_e])), (num_c h.2.2.2.2.1 (by simp (disch := omega) only [ow_si_ne, ow_si_n2, ow_si_e, ow_sl_i, ow_sr_i, ow_si_l, ow_si_r, ow_sl_r, ow_sr_l, ow_sl_n, ow_sl_e, ow_sr_n, ow_sr_e]) (by simp (disch := omega) only [ow_si_ne, ow_si_n2, ow_si_e, ow_sl_i, ow_sr_i, ow_si_l, ow_si_r, ow_sl_r, ow_sr_l, ow_sl_n, ow_sl_e, ow_sr_n, ow_sr_e]) (by simp (disch := omega) only [ow_si_ne, ow_si_n2, ow_si_e, ow_sl_i, ow_sr_i, ow_si_l, ow_si_r, ow_sl_r, ow_sr_l, ow_sl_n, ow_sl_e, ow_sr_n, ow_sr_e]) (by simp (disch := omega) only [ow_si_ne, ow_si_n2, ow_si_e, ow_sl_i, ow_sr_i, ow_si_l, ow_si_r, ow_sl_r, ow_sr_l, ow_sl_n, ow_sl_e, ow_sr_n, ow_sr_e]) (by simp (disch := omega) only [ow_si_ne, ow_si_n2, ow_si_e, ow_sl_i, ow_sr_i, ow_si_l, ow_si_r, ow_sl_r, ow_sr_l, ow_sl_n, ow_sl_e, ow_sr_n, ow_sr_e]) (by simp (disch := omega) only [ow_si_ne, ow_si_n2, ow_si_e, ow_sl_i, ow_sr_i, ow_si_l, ow_si_r, ow_sl_r, ow_sr_l, ow_sl_n, ow_sl_e, ow_sr_n, ow_sr_e])), (fnd_c h.2.2.2.2.2.1 (by simp (disch := omega) only [ow_si_ne, ow_si_n2, ow_si_e, ow_sl_i, ow_sr_i, ow_si_l, ow_si_r, ow_sl_r, ow_sr_l, ow_sl_n, ow_sl_e, ow_sr_n, ow_sr_e]) (by simp (disch := omega) only [ow_si_ne, ow_si_n2, ow_si_e, ow_sl_i, ow_sr_i, ow_si_l, ow_si_r, ow_sl_r, ow_sr_l, ow_sl_n, ow_sl_e, ow_sr_n, ow_sr_e]) (by simp (disch := omega) only [ow_si_ne, ow_si_n2, ow_si_e, ow_sl_i, ow_sr_i, ow_si_l, ow_si_r, ow_sl_r, ow_sr_l, ow_sl_n, ow_sl_e, ow_sr_n, ow_sr_e]) (by simp (disch := omega) only [ow_si_ne, ow_si_n2, ow_si_e, ow_sl_i, ow_sr_i, ow_si_l, ow_si_r, ow_sl_r, ow_sr_l, ow_sl_n, ow_sl_e, ow_sr_n, ow_sr_e])), ?_, (tab_c h.2.2.2.2.2.2.2.1 (by simp (disch := omega) only [ow_si_ne, ow_si_n2, ow_si_e, ow_sl_i, ow_sr_i, ow_si_l, ow_si_r, ow_sl_r, ow_sr_l, ow_sl_n, ow_sl_e, ow_sr_n, ow_sr_e]) (by simp (disch := omega) only [ow_si_ne, ow_si_n2, ow_si_e, ow_sl_i, ow_sr_i, ow_si_l, ow_si_r, ow_sl_r, ow_sr_l, ow_sl_n, ow_sl_e, ow_sr_n, ow_sr_e])), (cel_c h.2.2.2.2.2.2.2.2.1 (by simp (disch := omega) only [ow_si_ne, ow_si_n2, ow_si_e, ow_sl_i, ow_sr_i, ow_si_l, ow_si_r, ow_sl_r, ow_sr_l, ow_sl_n, ow_sl_e, ow_sr_n, ow_sr_e]) (by simp (disch := omega) only [ow_si_ne, ow_si_n2, ow_si_e, ow_sl_i, ow_sr_i, ow_si_l, ow_si_r, ow_sl_r, ow_sr_l, ow_sl_n, ow_sl_e, ow_sr_n, ow_sr_e]) (by simp (disch := omega) only [ow_si_ne, ow_si_n2, ow_si_e, ow_sl_i, ow_sr_i, ow_si_l, ow_si_r, ow_sl_r, ow_sr_l, ow_sl_n, ow_sl_e, ow_sr_n, ow_sr_e]) (by simp (disch := omega) only [ow_si_ne, ow_si_n2, ow_si_e, ow_sl_i, ow_sr_i, ow_si_l, ow_si_r, ow_sl_r, ow_sr_l, ow_sl_n, ow_sl_e, ow_sr_n, ow_sr_e]) (by simp (disch := omega) only [ow_si_ne, ow_si_n2, ow_si_e, ow_sl_i, ow_sr_i, ow_si_l, ow_si_r, ow_sl_r, ow_sr_l, ow_sl_n, ow_sl_e, ow_sr_n, ow_sr_e]) (by simp (disch := omega) only [ow_si_ne, ow_si_n2, ow_si_e, ow_sl_i, ow_sr_i, ow_si_l, ow_si_r, ow_sl_r, ow_sr_l, ow_sl_n, ow_sl_e, ow_sr_n, ow_sr_e]) (by simp (disch := omega) only [ow_si_ne, ow_si_n2, ow_si_e, ow_sl_i, ow_sr_i, ow_si_l, ow_si_r, ow_sl_r, ow_sr_l, ow_sl_n, ow_sl_e, ow_sr_n, ow_sr_e]) (by simp (disch := omega) only [ow_si_ne, ow_si_n2, ow_si_e, ow_sl_i, ow_sr_i, ow_si_l, ow_si_r, ow_sl_r, ow_sr_l, ow_sl_n, ow_sl_e, ow_sr_n, ow_sr_e])), (par_c h.2.2.2.2.2.2.2.2.2 (by simp (disch := omega) only [ow_si_ne, ow_si_n2, ow_si_e, ow_sl_i, ow_sr_i, ow_si_l, ow_si_r, ow_sl_r, ow_sr_l, ow_sl_n, ow_sl_e, ow_sr_n, ow_sr_e]) (by simp (disch := omega) only [ow_si_ne, ow_si_n2, ow_si_e, ow_sl_i, ow_sr_i, ow_si_l, ow_si_r, ow_sl_r, ow_sr_l, ow_sl_n, ow_sl_e, ow_sr_n, ow_sr_e]) (by simp (disch := omega) only [ow_si_ne, ow_si_n2, ow_si_e, ow_sl_i, ow_sr_i, ow_si_l, ow_si_r, ow_sl_r, ow_sr_l, ow_sl_n, ow_sl_e, ow_sr_n, ow_sr_e]) (by simp (disch := omega) only [ow_si_ne, ow_si_n2, ow_si_e, ow_sl_i, ow_sr_i, ow_si_l, ow_si_r, ow_sl_r, ow_sr_l, ow_sl_n, ow_sl_e, ow_sr_n, ow_sr_e]))⟩
  intro i hi
  by_cases e : i = j
  · subst e
    obtain ⟨k1, k2, k3, k4⟩ := h.2.2.2.2.2.2.1 i hi
    simp (disch := omega) only [ow_si_ne, ow_si_n2, ow_si_e, ow_si_r]
    exact ⟨k1, k2, trivial, hv⟩
  · simp (disch := omega) only [ow_si_ne, ow_si_n2, ow_si_e, ow_si_r]
    exact h.2.2.2.2.2.2.1 i hi


theorem clear_k {st : ow_St} {x1 : Int32} {k : Nat} (hk : k < 3) : fX3_clear st x1 (nI k) = (if x1 < 0 ∨ 10 ≤ x1 then ((-1), st) else ((fX1_size st x1.toNatClampNeg), fX1_become st x1.toNatClampNeg k 0)) := by
  rcases k3 hk with rfl | rfl | rfl <;> rfl
theorem clear_n {st : ow_St} {x1 x2 : Int32} (h0 : ¬ x2 = 0) (h1 : ¬ x2 = 1) (h2 : ¬ x2 = 2) : fX3_clear st x1 x2 = ((-1), st) := by
  unfold fX3_clear
  rw [if_neg h0, if_neg h1, if_neg h2, if_neg h0, if_neg h1, if_neg h2]
  split <;> rfl
theorem mk_clear {st : ow_St} (h : RLs st) (x1 x2 : Int32) : sameM st (fX3_clear st x1 x2).2 := by
  rcases kcase x2 with ⟨k, hk, rfl⟩ | ⟨h0, h1, h2⟩
  · rw [clear_k hk]
    split
    · exact same_rf st
    · unfold fX1_become
      exact ⟨fun c h1 h2 => by simp (disch := omega) only [ow_si_ne, ow_sl_i, ow_sr_i], (by simp (disch := omega) only [ow_si_ne, ow_si_n2, ow_si_e, ow_sl_i, ow_sr_i, ow_si_l, ow_si_r, ow_sl_r, ow_sr_l, ow_sl_n, ow_sl_e, ow_sr_n, ow_sr_e]), (by simp (disch := omega) only [ow_si_ne, ow_si_n2, ow_si_e, ow_sl_i, ow_sr_i, ow_si_l, ow_si_r, ow_sl_r, ow_sr_l, ow_sl_n, ow_sl_e, ow_sr_n, ow_sr_e])⟩
  · rw [clear_n h0 h1 h2]
    exact same_rf st
theorem eq_clear {st : ow_St} (h : RLs st) (x1 x2 : Int32) : (fX3_clear st x1 x2).1 = (fX4_clear (fX3_clear st x1 x2).2 x1 x2).1 ∧ RLs (fX4_clear (fX3_clear st x1 x2).2 x1 x2).2 := by
  rcases kcase x2 with ⟨k, hk, rfl⟩ | ⟨h0, h1, h2⟩
  · rw [clear_k hk]
    unfold fX4_clear
    by_cases hs : x1 < 0 ∨ 10 ≤ x1
    · rw [if_pos hs, if_pos (isS_y.mpr hs)]
      exact ⟨rfl, h⟩
    · rw [if_neg hs, if_neg (fun q => hs (isS_y.mp q)), if_neg (isK_k hk)]
      obtain ⟨k1, k2, k3, k4⟩ := h.2.2.2.2.2.2.1 _ (setN_b hs)
      refine ⟨?_, set_put h hk ⟨0, by decide, rfl⟩⟩
      show fX1_size st x1.toNatClampNeg = fX4_size (fX1_become st x1.toNatClampNeg k 0) ((fX1_become st x1.toNatClampNeg k 0).1 55 x1.toNatClampNeg)
      have e : (fX1_become st x1.toNatClampNeg k 0).1 55 x1.toNatClampNeg = st.1 55 x1.toNatClampNeg := by
        unfold fX1_become
        simp (disch := omega) only [ow_si_ne, ow_sr_i]
      rw [e]
      unfold fX1_size
      rw [k3]
      exact sz_eq k4
  · rw [clear_n h0 h1 h2]
    unfold fX4_clear
    rw [if_pos (isK_n h0 h1 h2)]
    split
    · exact ⟨rfl, h⟩
    · exact ⟨rfl, h⟩


theorem mk_put {st : ow_St} (h : RLs st) (x1 x2 x3 : Int32) : sameM st (fX3_put st x1 x2 x3).2 := by
  unfold fX3_put
  dsimp only
  split
  · exact same_rf st
  · split
    · exact same_rf st
    · split
      · exact ⟨fun c h1 h2 => by simp (disch := omega) only [ow_si_ne, ow_sl_i, ow_sr_i], (by simp (disch := omega) only [ow_si_ne, ow_si_n2, ow_si_e, ow_sl_i, ow_sr_i, ow_si_l, ow_si_r, ow_sl_r, ow_sr_l, ow_sl_n, ow_sl_e, ow_sr_n, ow_sr_e]), (by simp (disch := omega) only [ow_si_ne, ow_si_n2, ow_si_e, ow_sl_i, ow_sr_i, ow_si_l, ow_si_r, ow_sl_r, ow_sr_l, ow_sl_n, ow_sl_e, ow_sr_n, ow_sr_e])⟩
      · exact ⟨fun c h1 h2 => by simp (disch := omega) only [ow_si_ne, ow_sl_i, ow_sr_i], (by simp (disch := omega) only [ow_si_ne, ow_si_n2, ow_si_e, ow_sl_i, ow_sr_i, ow_si_l, ow_si_r, ow_sl_r, ow_sr_l, ow_sl_n, ow_sl_e, ow_sr_n, ow_sr_e]), (by simp (disch := omega) only [ow_si_ne, ow_si_n2, ow_si_e, ow_sl_i, ow_sr_i, ow_si_l, ow_si_r, ow_sl_r, ow_sr_l, ow_sl_n, ow_sl_e, ow_sr_n, ow_sr_e])⟩
theorem eq_put {st : ow_St} (h : RLs st) (x1 x2 x3 : Int32) : (fX3_put st x1 x2 x3).1 = (fX4_put (fX3_put st x1 x2 x3).2 x1 x2 x3).1 ∧ RLs (fX4_put (fX3_put st x1 x2 x3).2 x1 x2 x3).2 := by
  by_cases hs : x1 < 0 ∨ 10 ≤ x1
  · unfold fX3_put fX4_put
    rw [if_pos hs, if_pos (isS_y.mpr hs)]
    exact ⟨rfl, h⟩
  · have hs10 := setN_b hs
    obtain ⟨k1, k2, k3, k4⟩ := h.2.2.2.2.2.2.1 _ hs10
    by_cases c : fX0_has st (st.2.2 (x1.toNatClampNeg + 1)) x2 = 0
    · unfold fX3_put fX4_put
      rw [if_neg hs, if_pos c, if_neg (fun q => hs (isS_y.mp q)), if_pos]
      · exact ⟨rfl, h⟩
      · show fX4_isCode st (st.1 54 x1.toNatClampNeg) x2 = 0
        rw [k2, ← has_code (st := st) k1]
        exact c
    · obtain ⟨i, hi, rfl⟩ := vp_in_of (has_in c) (ow_mn _)
      obtain ⟨c', hc', e1, e2, e3⟩ := holds_at h hs10 hi
      have hb : ∀ z : Int32, (ow_si st 3 x1.toNatClampNeg z).1 55 x1.toNatClampNeg = st.1 55 x1.toNatClampNeg := fun z => by simp (disch := omega) only [ow_si_ne]
      have hc : ∀ z : Int32, (ow_si st 3 x1.toNatClampNeg z).1 54 x1.toNatClampNeg = st.1 54 x1.toNatClampNeg := fun z => by simp (disch := omega) only [ow_si_ne]
      have hcn : ∀ z : Int32, fX4_constant (ow_si st 3 x1.toNatClampNeg z) (st.1 54 x1.toNatClampNeg) (nI i) = nI c' := fun z => by
        rw [← e2]
        unfold fX4_constant
        rw [ow_si_ne (by decide)]
        rfl
      have hic : ∀ z : Int32, ¬ fX4_isCode (ow_si st 3 x1.toNatClampNeg z) (st.1 54 x1.toNatClampNeg) (nI i) = 0 := fun z => by
        rw [k2, ← has_code (st := st) k1]
        exact c
      have ht := bit_tests k4 hc'
      unfold fX3_put
      rw [if_neg hs, if_neg c, e1, e3, k3]
      by_cases o : x3 = 0
      · rw [if_pos o]
        dsimp only
        unfold fX4_put
        rw [if_neg (fun q => hs (isS_y.mp q)), hc, if_neg (hic _), hb, hcn, if_pos o, if_pos o]
        by_cases b : (((st.1 55 x1.toNatClampNeg) >>> (nI c' &&& 31)) &&& 1) = 1
        · rw [if_pos b, if_neg (ht.mp b)]
          exact ⟨rfl, set_put2 h (small_and k4)⟩
        · rw [if_neg b, if_pos (Classical.byContradiction fun q => b (ht.mpr q))]
          exact ⟨rfl, set_put2 h (small_and k4)⟩
      · rw [if_neg o]
        dsimp only
        unfold fX4_put
        rw [if_neg (fun q => hs (isS_y.mp q)), hc, if_neg (hic _), hb, hcn, if_neg o, if_neg o]
        by_cases b : (((st.1 55 x1.toNatClampNeg) >>> (nI c' &&& 31)) &&& 1) = 1
        · rw [if_pos b, if_neg (ht.mp b)]
          exact ⟨rfl, set_put2 h (small_or k4 (small_bit hc'))⟩
        · rw [if_neg b, if_pos (Classical.byContradiction fun q => b (ht.mpr q))]
          exact ⟨rfl, set_put2 h (small_or k4 (small_bit hc'))⟩


theorem fail_k {st : ow_St} {x2 : Int32} {k : Nat} (hk : k < 3) : fX3_fail st (nI k) x2 = (if (st.1 1 k) = 0 then ((fX3_oneIf st (st.1 2 k)), ow_si st 2 k x2) else ((-3), st)) := by
  rcases k3 hk with rfl | rfl | rfl <;> rfl
theorem fail_n {st : ow_St} {x1 x2 : Int32} (h0 : ¬ x1 = 0) (h1 : ¬ x1 = 1) (h2 : ¬ x1 = 2) : fX3_fail st x1 x2 = ((-1), st) := by
  unfold fX3_fail
  rw [if_neg h0, if_neg h1, if_neg h2]
theorem mk_fail {st : ow_St} (h : RLs st) (x1 x2 : Int32) : sameM st (fX3_fail st x1 x2).2 := by
  rcases kcase x1 with ⟨k, hk, rfl⟩ | ⟨h0, h1, h2⟩
  · rw [fail_k hk]
    split
    · exact ⟨fun c h1 h2 => by simp (disch := omega) only [ow_si_ne, ow_sl_i, ow_sr_i], (by simp (disch := omega) only [ow_si_ne, ow_si_n2, ow_si_e, ow_sl_i, ow_sr_i, ow_si_l, ow_si_r, ow_sl_r, ow_sr_l, ow_sl_n, ow_sl_e, ow_sr_n, ow_sr_e]), (by simp (disch := omega) only [ow_si_ne, ow_si_n2, ow_si_e, ow_sl_i, ow_sr_i, ow_si_l, ow_si_r, ow_sl_r, ow_sr_l, ow_sl_n, ow_sl_e, ow_sr_n, ow_sr_e])⟩
    · exact same_rf st
  · rw [fail_n h0 h1 h2]
    exact same_rf st
theorem eq_fail {st : ow_St} (h : RLs st) (x1 x2 : Int32) : (fX3_fail st x1 x2).1 = (fX4_fail (fX3_fail st x1 x2).2 x1 x2).1 ∧ RLs (fX4_fail (fX3_fail st x1 x2).2 x1 x2).2 := by
  rcases kcase x1 with ⟨k, hk, rfl⟩ | ⟨h0, h1, h2⟩
  · obtain ⟨a1, a2, a3⟩ := h.2.2.2.1 k hk
    rw [fail_k hk]
    unfold fX4_fail
    rw [if_neg (isK_k hk), kcl hk, a1]
    by_cases c : st.1 52 k = 0
    · rw [if_pos c]
      have e1 : (ow_si st 2 k x2).1 52 k = st.1 52 k := by simp (disch := omega) only [ow_si_ne]
      have e2 : (ow_si st 2 k x2).1 53 k = st.1 53 k := by simp (disch := omega) only [ow_si_ne]
      have hR : RLs (ow_si (ow_si st 2 k x2) 53 k x2) := by
        refine ⟨(con_c h.1 (fun k hk => (by simp (disch := omega) only [ow_si_ne, ow_si_n2, ow_si_e, ow_sl_i, ow_sr_i, ow_si_l, ow_si_r, ow_sl_r, ow_sr_l, ow_sl_n, ow_sl_e, ow_sr_n, ow_sr_e])) (by simp (disch := omega) only [ow_si_ne, ow_si_n2, ow_si_e, ow_sl_i, ow_sr_i, ow_si_l, ow_si_r, ow_sl_r, ow_sr_l, ow_sl_n, ow_sl_e, ow_sr_n, ow_sr_e])), (cod_c h.2.1 (fun k hk => (by simp (disch := omega) only [ow_si_ne, ow_si_n2, ow_si_e, ow_sl_i, ow_sr_i, ow_si_l, ow_si_r, ow_sl_r, ow_sr_l, ow_sl_n, ow_sl_e, ow_sr_n, ow_sr_e])) (by simp (disch := omega) only [ow_si_ne, ow_si_n2, ow_si_e, ow_sl_i, ow_sr_i, ow_si_l, ow_si_r, ow_sl_r, ow_sr_l, ow_sl_n, ow_sl_e, ow_sr_n, ow_sr_e])), (inj_c h.2.2.1 (by simp (disch := omega) only [ow_si_ne, ow_si_n2, ow_si_e, ow_sl_i, ow_sr_i, ow_si_l, ow_si_r, ow_sl_r, ow_sr_l, ow_sl_n, ow_sl_e, ow_sr_n, ow_sr_e])), ?_, (num_c h.2.2.2.2.1 (by simp (disch := omega) only [ow_si_ne, ow_si_n2, ow_si_e, ow_sl_i, ow_sr_i, ow_si_l, ow_si_r, ow_sl_r, ow_sr_l, ow_sl_n, ow_sl_e, ow_sr_n, ow_sr_e]) (by simp (disch := omega) only [ow_si_ne, ow_si_n2, ow_si_e, ow_sl_i, ow_sr_i, ow_si_l, ow_si_r, ow_sl_r, ow_sr_l, ow_sl_n, ow_sl_e, ow_sr_n, ow_sr_e]) (by simp (disch := omega) only [ow_si_ne, ow_si_n2, ow_si_e, ow_sl_i, ow_sr_i, ow_si_l, ow_si_r, ow_sl_r, ow_sr_l, ow_sl_n, ow_sl_e, ow_sr_n, ow_sr_e]) (by simp (disch := omega) only [ow_si_ne, ow_si_n2, ow_si_e, ow_sl_i, ow_sr_i, ow_si_l, ow_si_r, ow_sl_r, ow_sr_l, ow_sl_n, ow_sl_e, ow_sr_n, ow_sr_e]) (by simp (disch := omega) only [ow_si_ne, ow_si_n2, ow_si_e, ow_sl_i, ow_sr_i, ow_si_l, ow_si_r, ow_sl_r, ow_sr_l, ow_sl_n, ow_sl_e, ow_sr_n, ow_sr_e]) (by simp (disch := omega) only [ow_si_ne, ow_si_n2, ow_si_e, ow_sl_i, ow_sr_i, ow_si_l, ow_si_r, ow_sl_r, ow_sr_l, ow_sl_n, ow_sl_e, ow_sr_n, ow_sr_e])), (fnd_c h.2.2.2.2.2.1 (by simp (disch := omega) only [ow_si_ne, ow_si_n2, ow_si_e, ow_sl_i, ow_sr_i, ow_si_l, ow_si_r, ow_sl_r, ow_sr_l, ow_sl_n, ow_sl_e, ow_sr_n, ow_sr_e]) (by simp (disch := omega) only [ow_si_ne, ow_si_n2, ow_si_e, ow_sl_i, ow_sr_i, ow_si_l, ow_si_r, ow_sl_r, ow_sr_l, ow_sl_n, ow_sl_e, ow_sr_n, ow_sr_e]) (by simp (disch := omega) only [ow_si_ne, ow_si_n2, ow_si_e, ow_sl_i, ow_sr_i, ow_si_l, ow_si_r, ow_sl_r, ow_sr_l, ow_sl_n, ow_sl_e, ow_sr_n, ow_sr_e]) (by simp (disch := omega) only [ow_si_ne, ow_si_n2, ow_si_e, ow_sl_i, ow_sr_i, ow_si_l, ow_si_r, ow_sl_r, ow_sr_l, ow_sl_n, ow_sl_e, ow_sr_n, ow_sr_e])), (set_c h.2.2.2.2.2.2.1 (fun j => (by simp (disch := omega) only [ow_si_ne, ow_si_n2, ow_si_e, ow_sl_i, ow_sr_i, ow_si_l, ow_si_r, ow_sl_r, ow_sr_l, ow_sl_n, ow_sl_e, ow_sr_n, ow_sr_e])) (by simp (disch := omega) only [ow_si_ne, ow_si_n2, ow_si_e, ow_sl_i, ow_sr_i, ow_si_l, ow_si_r, ow_sl_r, ow_sr_l, ow_sl_n, ow_sl_e, ow_sr_n, ow_sr_e]) (by simp (disch := omega) only [ow_si_ne, ow_si_n2, ow_si_e, ow_sl_i, ow_sr_i, ow_si_l, ow_si_r, ow_sl_r, ow_sr_l, ow_sl_n, ow_sl_e, ow_sr_n, ow_sr_e]) (by simp (disch := omega) only [ow_si_ne, ow_si_n2, ow_si_e, ow_sl_i, ow_sr_i, ow_si_l, ow_si_r, ow_sl_r, ow_sr_l, ow_sl_n, ow_sl_e, ow_sr_n, ow_sr_e])), (tab_c h.2.2.2.2.2.2.2.1 (by simp (disch := omega) only [ow_si_ne, ow_si_n2, ow_si_e, ow_sl_i, ow_sr_i, ow_si_l, ow_si_r, ow_sl_r, ow_sr_l, ow_sl_n, ow_sl_e, ow_sr_n, ow_sr_e]) (by simp (disch := omega) only [ow_si_ne, ow_si_n2, ow_si_e, ow_sl_i, ow_sr_i, ow_si_l, ow_si_r, ow_sl_r, ow_sr_l, ow_sl_n, ow_sl_e, ow_sr_n, ow_sr_e])), (cel_c h.2.2.2.2.2.2.2.2.1 (by simp (disch := omega) only [ow_si_ne, ow_si_n2, ow_si_e, ow_sl_i, ow_sr_i, ow_si_l, ow_si_r, ow_sl_r, ow_sr_l, ow_sl_n, ow_sl_e, ow_sr_n, ow_sr_e]) (by simp (disch := omega) only [ow_si_ne, ow_si_n2, ow_si_e, ow_sl_i, ow_sr_i, ow_si_l, ow_si_r, ow_sl_r, ow_sr_l, ow_sl_n, ow_sl_e, ow_sr_n, ow_sr_e]) (by simp (disch := omega) only [ow_si_ne, ow_si_n2, ow_si_e, ow_sl_i, ow_sr_i, ow_si_l, ow_si_r, ow_sl_r, ow_sr_l, ow_sl_n, ow_sl_e, ow_sr_n, ow_sr_e]) (by simp (disch := omega) only [ow_si_ne, ow_si_n2, ow_si_e, ow_sl_i, ow_sr_i, ow_si_l, ow_si_r, ow_sl_r, ow_sr_l, ow_sl_n, ow_sl_e, ow_sr_n, ow_sr_e]) (by simp (disch := omega) only [ow_si_ne, ow_si_n2, ow_si_e, ow_sl_i, ow_sr_i, ow_si_l, ow_si_r, ow_sl_r, ow_sr_l, ow_sl_n, ow_sl_e, ow_sr_n, ow_sr_e]) (by simp (disch := omega) only [ow_si_ne, ow_si_n2, ow_si_e, ow_sl_i, ow_sr_i, ow_si_l, ow_si_r, ow_sl_r, ow_sr_l, ow_sl_n, ow_sl_e, ow_sr_n, ow_sr_e]) (by simp (disch := omega) only [ow_si_ne, ow_si_n2, ow_si_e, ow_sl_i, ow_sr_i, ow_si_l, ow_si_r, ow_sl_r, ow_sr_l, ow_sl_n, ow_sl_e, ow_sr_n, ow_sr_e]) (by simp (disch := omega) only [ow_si_ne, ow_si_n2, ow_si_e, ow_sl_i, ow_sr_i, ow_si_l, ow_si_r, ow_sl_r, ow_sr_l, ow_sl_n, ow_sl_e, ow_sr_n, ow_sr_e])), (par_c h.2.2.2.2.2.2.2.2.2 (by simp (disch := omega) only [ow_si_ne, ow_si_n2, ow_si_e, ow_sl_i, ow_sr_i, ow_si_l, ow_si_r, ow_sl_r, ow_sr_l, ow_sl_n, ow_sl_e, ow_sr_n, ow_sr_e]) (by simp (disch := omega) only [ow_si_ne, ow_si_n2, ow_si_e, ow_sl_i, ow_sr_i, ow_si_l, ow_si_r, ow_sl_r, ow_sr_l, ow_sl_n, ow_sl_e, ow_sr_n, ow_sr_e]) (by simp (disch := omega) only [ow_si_ne, ow_si_n2, ow_si_e, ow_sl_i, ow_sr_i, ow_si_l, ow_si_r, ow_sl_r, ow_sr_l, ow_sl_n, ow_sl_e, ow_sr_n, ow_sr_e]) (by simp (disch := omega) only [ow_si_ne, ow_si_n2, ow_si_e, ow_sl_i, ow_sr_i, ow_si_l, ow_si_r, ow_sl_r, ow_sr_l, ow_sl_n, ow_sl_e, ow_sr_n, ow_sr_e]))⟩
        intro i hi
        obtain ⟨b1, b2, b3⟩ := h.2.2.2.1 i hi
        by_cases e : i = k
        · subst e
          simp (disch := omega) only [ow_si_ne, ow_si_n2, ow_si_e]
          exact ⟨b1, trivial, b3⟩
        · simp (disch := omega) only [ow_si_ne, ow_si_n2, ow_si_e]
          exact ⟨b1, b2, b3⟩
      dsimp only
      rw [e1, if_pos c, e2]
      unfold fX3_oneIf
      rw [a2]
      by_cases d : st.1 53 k = 0
      · rw [if_pos d, if_pos d]
        exact ⟨rfl, hR⟩
      · rw [if_neg d, if_neg d]
        exact ⟨rfl, hR⟩
    · rw [if_neg c]
      dsimp only
      rw [if_neg c]
      exact ⟨rfl, h⟩
  · rw [fail_n h0 h1 h2]
    unfold fX4_fail
    rw [if_pos (isK_n h0 h1 h2)]
    exact ⟨rfl, h⟩
