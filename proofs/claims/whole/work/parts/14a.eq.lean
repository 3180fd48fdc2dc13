/-! pure rows: the class's functions beside the reference's -/
theorem I_lt_le {a b x : Int32} (h : b.toInt = a.toInt + 1) : a < x ↔ b ≤ x := by
  rw [Int32.lt_iff_toInt_lt, Int32.le_iff_toInt_le]
  omega
theorem k3 {k : Nat} (h : k < 3) : k = 0 ∨ k = 1 ∨ k = 2 := by omega
theorem mn_le (k : Nat) : mn k ≤ 26 := by
  unfold mn
  split
  · decide
  · split <;> decide
theorem ix26 {k j : Nat} (hk : k < 3) (hj : j < 26) : ((26 * nI k) + nI j).toNatClampNeg = 26 * k + j := by
  rw [show (26 : Int32) = nI 26 from rfl, pk_mul, nI_add, nI_clamp (by omega)]
theorem ix5 {k j : Nat} (hk : k < 3) (hj : j < 26) : ((5 * nI k) + nI j).toNatClampNeg = 5 * k + j := by
  rw [show (5 : Int32) = nI 5 from rfl, pk_mul, nI_add, nI_clamp (by omega)]
theorem kcl {k : Nat} (hk : k < 3) : (nI k).toNatClampNeg = k := nI_clamp (by omega)
theorem has_code {st st' : ow_St} {k : Nat} (hk : k < 3) (x : Int32) : fX0_has st k x = fX4_isCode st' (nI k) x := by
  have e : (ow_mny (nI k).toNatClampNeg - 1 < x) ↔ nI (mn k) ≤ x := by
    rcases k3 hk with rfl | rfl | rfl
    · exact I_lt_le (by decide +kernel)
    · exact I_lt_le (by decide +kernel)
    · exact I_lt_le (by decide +kernel)
  unfold fX0_has fX4_isCode fX4_isIn
  by_cases c1 : x < 0
  · rw [if_pos c1, if_pos c1]
  · rw [if_neg c1, if_neg c1]
    by_cases c2 : nI (mn k) ≤ x
    · rw [if_pos c2, if_pos (e.mpr c2)]
    · rw [if_neg c2, if_neg (fun q => c2 (e.mp q))]
theorem has_of {st : ow_St} {k j : Nat} (hj : j < mn k) : ¬ fX0_has st k (nI j) = 0 := by
  have hm := ow_mn k
  unfold fX0_has
  rw [if_neg (nI_pos (by omega)), if_neg (nI_ge hj hm)]
  decide
theorem isK_k {st : ow_St} {k : Nat} (hk : k < 3) : ¬ fX4_isKind st (nI k) = 0 := by
  rcases k3 hk with rfl | rfl | rfl <;> (unfold fX4_isKind fX4_isIn; decide)
theorem isK_n {st : ow_St} {x : Int32} (h0 : ¬ x = 0) (h1 : ¬ x = 1) (h2 : ¬ x = 2) : fX4_isKind st x = 0 := by
  by_cases c : fX4_isKind st x = 0
  · exact c
  · rcases in3 (isK_in c) with e | e | e
    · exact absurd e h0
    · exact absurd e h1
    · exact absurd e h2
theorem kcase (x : Int32) : (∃ k, k < 3 ∧ x = nI k) ∨ (¬ x = 0 ∧ ¬ x = 1 ∧ ¬ x = 2) := by
  by_cases h0 : x = 0
  · exact Or.inl ⟨0, by decide, h0⟩
  · by_cases h1 : x = 1
    · exact Or.inl ⟨1, by decide, h1⟩
    · by_cases h2 : x = 2
      · exact Or.inl ⟨2, by decide, h2⟩
      · exact Or.inr ⟨h0, h1, h2⟩
theorem isS_y {st : ow_St} {x : Int32} : fX4_isSet st x = 0 ↔ (x < 0 ∨ 10 ≤ x) := by
  have e : ((9 : Int32) < x) ↔ 10 ≤ x := I_lt_le (by decide)
  unfold fX4_isSet fX4_isIn
  by_cases c1 : x < 0
  · rw [if_pos c1]
    exact ⟨fun _ => Or.inl c1, fun _ => rfl⟩
  · rw [if_neg c1]
    by_cases c2 : (9 : Int32) < x
    · rw [if_pos c2]
      exact ⟨fun _ => Or.inr (e.mp c2), fun _ => rfl⟩
    · rw [if_neg c2]
      refine ⟨fun q => absurd q (by decide), fun q => ?_⟩
      rcases q with q | q
      · exact absurd q c1
      · exact absurd (e.mpr q) c2
/-- constants by codes, codes by constants -/
theorem con_eq {st : ow_St} (h : rl_con st) {k : Nat} (hk : k < 3) (x : Int32) : fX0_constantOf st k x = fX4_constant st (nI k) x := by
  unfold fX0_constantOf fX4_constant
  rw [has_code (st' := st) hk x]
  by_cases c : fX4_isCode st (nI k) x = 0
  · rw [if_pos c, if_pos c]
  · rw [if_neg c, if_neg c]
    have hv := isC_in (vp_in_nI hk (by decide)) c
    rw [kcl hk] at hv
    obtain ⟨j, hj, rfl⟩ := vp_in_of hv (ow_mn k)
    have := mn_le k
    rw [ix26 hk (by omega), nI_clamp (by omega)]
    exact (h k hk j hj).1
theorem cod_eq {st : ow_St} (h : rl_cod st) {k : Nat} (hk : k < 3) {v : Int32} (hv : cellok v (mn k)) : fX0_codeOf st k v = fX4_codeNow st (nI k) v := by
  unfold fX0_codeOf fX4_codeNow
  rcases hv with e | hv
  · subst e
    rw [if_pos rfl, if_pos]
    unfold fX0_has
    rw [if_pos (by decide)]
  · obtain ⟨j, hj, rfl⟩ := vp_in_of hv (ow_mn k)
    have := mn_le k
    rw [if_neg (has_of hj), if_neg (fun q => nI_pos (n := j) (by omega) (by rw [q]; decide)), ix26 hk (by omega), nI_clamp (by omega)]
    exact h k hk j hj
theorem nmC_ok : ∀ i, i < 26 → ow_nm 2 i = 97 + (nI i).toInt64 := by decide +kernel
theorem nmA_ok : ∀ i, i < 5 → ow_nm 0 i = ow_nmM (5 * 0 + i) := by decide +kernel
theorem nmB_ok : ∀ i, i < 7 → ow_nm 1 i = ow_nmM (5 * 1 + i) := by decide +kernel
theorem nm_eq {st : ow_St} {k i : Nat} (hk : k < 3) (hi : i < mn k) : ow_nm k i = fX4_nameOf st (nI k) (nI i) := by
  unfold fX4_nameOf
  have := mn_le k
  rcases k3 hk with rfl | rfl | rfl
  · rw [if_neg (by decide), ix5 (by decide) (by omega)]
    exact nmA_ok i hi
  · rw [if_neg (by decide), ix5 (by decide) (by omega)]
    exact nmB_ok i hi
  · rw [if_pos (show nI 2 = 2 from rfl)]
    exact nmC_ok i hi
/-- the cell that a code's constant has -/
theorem con_at {st : ow_St} (h : rl_con st) {k : Nat} (hk : k < 3) {x : Int32} (c : ¬ fX0_has st k x = 0) : ∃ j c', j < mn k ∧ c' < mn k ∧ x = nI j ∧ st.1 (100 + 4 * k) j = nI c' ∧ st.1 51 (26 * k + j) = nI c' ∧ fX0_constantOf st k x = nI c' := by
  obtain ⟨j, hj, rfl⟩ := vp_in_of (has_in c) (ow_mn k)
  have hm := ow_mn k
  obtain ⟨e, hv⟩ := h k hk j hj
  obtain ⟨c', hc', e2⟩ := vp_in_of hv (ow_mn k)
  refine ⟨j, c', hj, hc', rfl, by rw [e, e2], e2, ?_⟩
  unfold fX0_constantOf
  rw [if_neg c, nI_clamp (by omega), e, e2]
theorem code_k {st : ow_St} {k : Nat} (hk : k < 3) {x : Int64} : fX3_code st (nI k) x = (if (fX0_constantNamed st k x) = (-1) then (-4) else (fX0_codeOf st k (fX0_constantNamed st k x))) := by
  rcases k3 hk with rfl | rfl | rfl <;> rfl
theorem code_loop {st : ow_St} (h : RLs st) {k : Nat} (hk : k < 3) {x : Int64} : ∀ n i, i ≤ mn k → mn k < i + n → (if (flX0_constantNamed st k x n i) = (-1) then (-4) else (fX0_codeOf st k (flX0_constantNamed st k x n i))) = flX4_code st (nI k) x n i := by
  intro n
  induction n with
  | zero => intro i h1 h2; omega
  | succ n ih =>
    intro i hi hn
    have hm := ow_mn k
    have hm2 := mn_le k
    unfold flX0_constantNamed flX4_code
    rw [kcl hk, mny_eq hk]
    by_cases c : nI (mn k) ≤ nI i
    · rw [if_pos c, if_pos c, if_pos rfl]
    · have hlt := ow_lt c hi hm
      rw [if_neg c, if_neg c, ← nm_eq hk hlt]
      by_cases c2 : lg_cmp (ow_nm k i) x = 0
      · rw [if_pos c2, if_pos c2, if_neg (fun q => nI_pos (n := i) (by omega) (by rw [q]; decide)), ix26 hk (by omega)]
        unfold fX0_codeOf
        rw [if_neg (has_of hlt), nI_clamp (by omega)]
        exact h.2.1 k hk i hlt
      · rw [if_neg c2, if_neg c2]
        exact ih (i + 1) (by omega) (by omega)
theorem eq_code {st : ow_St} (h : RLs st) (x1 : Int32) (x2 : Int64) : fX3_code st x1 x2 = fX4_code st x1 x2 := by
  rcases kcase x1 with ⟨k, hk, rfl⟩ | ⟨h0, h1, h2⟩
  · rw [code_k hk]
    unfold fX4_code fX0_constantNamed
    rw [if_neg (isK_k hk), kcl hk]
    exact code_loop h hk _ 0 (Nat.zero_le _) (by omega)
  · unfold fX3_code fX4_code
    rw [if_neg h0, if_neg h1, if_neg h2, if_pos (isK_n h0 h1 h2)]
theorem name_k {st : ow_St} {k : Nat} (hk : k < 3) {x : Int32} : fX3_name st (nI k) x = fX0_nameOf st k (fX0_constantOf st k x) := by
  rcases k3 hk with rfl | rfl | rfl <;> rfl
theorem eq_name {st : ow_St} (h : RLs st) (x1 x2 : Int32) : fX3_name st x1 x2 = fX4_name st x1 x2 := by
  rcases kcase x1 with ⟨k, hk, rfl⟩ | ⟨h0, h1, h2⟩
  · rw [name_k hk]
    unfold fX4_name
    rw [if_neg (isK_k hk), ← has_code (st := st) hk x2]
    by_cases c : fX0_has st k x2 = 0
    · rw [if_pos c]
      unfold fX0_constantOf
      rw [if_pos c]
      unfold fX0_nameOf
      rw [if_pos (show fX0_has st k (-1) = 0 by unfold fX0_has; rw [if_pos (by decide)])]
    · rw [if_neg c, ← con_eq h.1 hk]
      obtain ⟨j, c', hj, hc', rfl, e1, e2, e3⟩ := con_at h.1 hk c
      have := mn_le k
      rw [e3]
      unfold fX0_nameOf
      rw [if_neg (has_of hc'), nI_clamp (by omega)]
      exact nm_eq hk hc'
  · unfold fX3_name fX4_name
    rw [if_neg h0, if_neg h1, if_neg h2, if_pos (isK_n h0 h1 h2)]
theorem eq_result {st : ow_St} (h : RLs st) : fX3_result st = fX4_result st := h.2.2.2.2.1.1
theorem eq_started {st : ow_St} (h : RLs st) (x1 : Int32) : fX3_started st x1 = fX4_started st x1 := by
  rcases kcase x1 with ⟨k, hk, rfl⟩ | ⟨h0, h1, h2⟩
  · unfold fX4_started
    rw [if_neg (isK_k hk), kcl hk, ← (h.2.2.2.1 k hk).1]
    rcases k3 hk with rfl | rfl | rfl <;> rfl
  · unfold fX3_started fX4_started
    rw [if_neg h0, if_neg h1, if_neg h2, if_pos (isK_n h0 h1 h2)]
theorem eq_count {st : ow_St} (h : RLs st) (x1 : Int32) : fX3_count st x1 = fX4_count st x1 := by
  unfold fX3_count fX4_count
  by_cases h0 : x1 = 0
  · subst h0
    rw [if_pos rfl, if_pos rfl]
    exact (h.2.2.2.2.2.2.2.1 0 (by decide)).1
  · rw [if_neg h0, if_neg h0]
    by_cases h1 : x1 = 1
    · subst h1
      rw [if_pos rfl, if_pos rfl]
      exact (h.2.2.2.2.2.2.2.1 1 (by decide)).1
    · rw [if_neg h1, if_neg h1, h.2.2.2.2.1.2.1, h.2.2.2.2.1.2.2]
theorem isIn_n1 {st : ow_St} {x : Int32} {n : Nat} (hn : n ≤ 30) : fX4_isIn st x 0 (nI n - 1) = (if x < 0 then 0 else (if nI n ≤ x then 0 else 1)) := by
  have e : (nI n - 1 < x) ↔ nI n ≤ x := by
    refine I_lt_le ?_
    have h1 : (nI n - nI 1).toInt = (n : Int) - 1 := pk_sub_toInt (by omega) (by decide)
    have h2 : (nI n).toInt = (n : Int) := nI_toInt (by omega)
    rw [show nI n - 1 = nI n - nI 1 from rfl, h1, h2]
    omega
  unfold fX4_isIn
  by_cases c1 : x < 0
  · rw [if_pos c1, if_pos c1]
  · rw [if_neg c1, if_neg c1]
    by_cases c2 : nI n ≤ x
    · rw [if_pos c2, if_pos (e.mpr c2)]
    · rw [if_neg c2, if_neg (fun q => c2 (e.mp q))]
theorem eq_found {st : ow_St} (h : RLs st) (x1 : Int32) : fX3_found st x1 = fX4_found st x1 := by
  obtain ⟨e, ⟨n, hn, e2⟩, e3⟩ := h.2.2.2.2.2.1
  unfold fX3_found fX4_found
  rw [e, e2, isIn_n1 hn]
  by_cases c1 : x1 < 0
  · rw [if_pos c1, if_pos c1, if_pos rfl]
  · rw [if_neg c1, if_neg c1]
    by_cases c2 : nI n ≤ x1
    · rw [if_pos c2, if_pos c2, if_pos rfl]
    · rw [if_neg c2, if_neg c2, if_neg (by decide)]
      exact e3 _ (vp_lt (in_le c1 c2 hn (by decide)))
