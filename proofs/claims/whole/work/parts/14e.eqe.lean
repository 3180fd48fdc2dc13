
theorem ow_si_id {z : ow_St} {c i : Nat} {v : Int32} (h : z.1 c i = v) : ow_si z c i v = z := by
  unfold ow_si
  refine Prod.ext ?_ rfl
  funext c' i'
  show (if c' = c ∧ i' = i then v else z.1 c' i') = z.1 c' i'
  by_cases e : c' = c ∧ i' = i
  · obtain ⟨rfl, rfl⟩ := e
    rw [if_pos ⟨rfl, rfl⟩, h]
  · rw [if_neg e]
def valK (k : Nat) (s : ow_St) (c : Int32) (v : Int64) : Int64 := if k = 0 then fX3_valueOf_0 s c v else if k = 1 then fX3_valueOf_1 s c v else fX3_valueOf_2 s c v
def askK (k : Nat) (s : ow_St) (c : Int32) (v : Int64) : Int32 × ow_St := if k = 0 then fX3_askRule_0 s c v else if k = 1 then fX3_askRule_1 s c v else fX3_askRule_2 s c v
theorem rule_k {st : ow_St} {x2 : Int32} {x3 : Int64} {k : Nat} (hk : k < 3) : fX3_rule st (nI k) x2 x3 = (if (fX0_has st k x2) = 0 then ((-1), st) else (if (askK k st (fX0_constantOf st k x2) x3).1 = 1 then ((askK k st (fX0_constantOf st k x2) x3).1, ow_sl (askK k st (fX0_constantOf st k x2) x3).2 0 (valK k (askK k st (fX0_constantOf st k x2) x3).2 (fX0_constantOf st k x2) x3)) else ((askK k st (fX0_constantOf st k x2) x3).1, (askK k st (fX0_constantOf st k x2) x3).2))) := by
  unfold fX3_rule askK valK
  rcases k3 hk with rfl | rfl | rfl
  · rw [if_pos (show nI 0 = 0 from rfl)]
    rfl
  · rw [if_neg (show ¬ nI 1 = 0 by decide), if_pos (show nI 1 = 1 from rfl)]
    rfl
  · rw [if_neg (show ¬ nI 2 = 0 by decide), if_neg (show ¬ nI 2 = 1 by decide), if_pos (show nI 2 = 2 from rfl)]
    rfl
theorem rule_n {st : ow_St} {x1 x2 : Int32} {x3 : Int64} (h0 : ¬ x1 = 0) (h1 : ¬ x1 = 1) (h2 : ¬ x1 = 2) : fX3_rule st x1 x2 x3 = ((-1), st) := by
  unfold fX3_rule
  rw [if_neg h0, if_neg h1, if_neg h2]
theorem start_k {st : ow_St} (h : rl_sta st) {k : Nat} (hk : k < 3) :
    (fX0_startForRule st k = (1, ow_si st 1 k 1) ∧ ∀ z : ow_St, z.1 52 k = st.1 52 k → z.1 53 k = st.1 53 k → fX4_begin z (nI k) = (0, ow_si z 52 k 1)) ∨
    (fX0_startForRule st k = ((-8), ow_si st 1 k 2) ∧ ∀ z : ow_St, z.1 52 k = st.1 52 k → z.1 53 k = st.1 53 k → fX4_begin z (nI k) = ((-8), ow_si z 52 k 2)) ∨
    (fX0_startForRule st k = ((-9), st) ∧ ∀ z : ow_St, z.1 52 k = st.1 52 k → z.1 53 k = st.1 53 k → fX4_begin z (nI k) = ((-9), z)) := by
  obtain ⟨a1, a2, a3⟩ := h k hk
  unfold fX0_startForRule fX4_begin
  rw [a1, a2, kcl hk]
  rcases a3 with e | e | e
  · rw [e]
    by_cases t : st.1 53 k = 0
    · refine Or.inl ⟨?_, fun z e1 e2 => ?_⟩
      · rw [if_neg (by decide), if_pos rfl, if_pos t]
      · rw [e1, e2, if_pos rfl, if_pos t]
        dsimp only
        rw [if_pos (by rw [ow_si_ne (by decide), e2]; exact t)]
    · refine Or.inr (Or.inl ⟨?_, fun z e1 e2 => ?_⟩)
      · rw [if_neg (by decide), if_pos rfl, if_neg t]
      · rw [e1, e2, if_pos rfl, if_neg t]
        dsimp only
        rw [if_neg (by rw [ow_si_ne (by decide), e2]; exact t)]
  · rw [e]
    refine Or.inl ⟨?_, fun z e1 e2 => ?_⟩
    · rw [if_neg (by decide), if_neg (by decide)]
    · rw [e1, if_neg (by decide), if_neg (by decide), ow_si_id (e1)]
  · rw [e]
    refine Or.inr (Or.inr ⟨?_, fun z e1 e2 => ?_⟩)
    · rw [if_pos rfl]
    · rw [e1, if_neg (by decide), if_pos rfl]
theorem works_0 {c : Nat} (hc : c < 5) (v : Int64) (s s' : ow_St) : fX4_works s 0 (nI c) v = (1, ow_sl s 2 (fX3_nodeValue s' (nI c) v)) := by
  unfold fX4_works fX3_nodeValue
  rw [if_neg (by decide)]
  rcases (show c = 0 ∨ c = 1 ∨ c = 2 ∨ c = 3 ∨ c = 4 by omega) with rfl | rfl | rfl | rfl | rfl
  · rw [if_pos (by decide), if_pos (by decide)]
  · rw [if_neg (by decide), if_pos (by decide), if_neg (by decide), if_pos (by decide)]
  · rw [if_neg (by decide), if_neg (by decide), if_pos (by decide), if_neg (by decide), if_neg (by decide), if_pos (by decide)]
  · rw [if_neg (by decide), if_neg (by decide), if_neg (by decide), if_pos (by decide), if_neg (by decide), if_neg (by decide), if_neg (by decide), if_pos (by decide)]
  · rw [if_neg (by decide), if_neg (by decide), if_neg (by decide), if_neg (by decide), if_pos (by decide), if_neg (by decide), if_neg (by decide), if_neg (by decide), if_neg (by decide), if_pos (by decide)]
theorem lg3 {v : Int64} : lg_cmp v ((3 : Int32).toInt64) < 0 ↔ lg_cmp v 2 ≤ 0 := by
  rw [lg_cmp_lt, lg_cmp_le, Int64.lt_iff_toInt_lt, Int64.le_iff_toInt_le]
  have e1 : ((3 : Int32).toInt64).toInt = 3 := by decide
  have e2 : (2 : Int64).toInt = 2 := by decide
  omega
theorem wi_val {v : Int64} (h1 : ¬ lg_cmp v 0 < 0) (h2 : lg_cmp v ((3 : Int32).toInt64) < 0) : ow_wi (v.toInt32.toNatClampNeg) = 5 + 2 * v := by
  have a1 : ¬ v < 0 := fun q => h1 ((lg_cmp_lt v 0).mpr q)
  have a2 : v < ((3 : Int32).toInt64) := (lg_cmp_lt v _).mp h2
  obtain ⟨j, hj, rfl⟩ := pk_lOf a1
  have a3 : j < 3 := (pk_lLT hj (by decide)).mp (show lN j < lN 3 from a2)
  rcases (show j = 0 ∨ j = 1 ∨ j = 2 by omega) with rfl | rfl | rfl <;> decide
/-- what the reference does at an arc's rule, as the class answers -/
theorem works_1 {c : Nat} (hc : c < 7) (v : Int64) :
    (∃ val, (∀ s, fX4_works s 1 (nI c) v = (1, ow_sl s 2 val)) ∧ (∀ s, fX3_arcRuleAnswer s (nI c) v = 1) ∧ ∀ s, fX3_arcValue s (nI c) v = val) ∨
    (∃ why, ¬ why = 1 ∧ ¬ why = (-8) ∧ ¬ why = (-9) ∧ (∀ s : ow_St, fX4_works s 1 (nI c) v = (why, ow_si s 61 0 (s.1 61 0 + 1))) ∧ ∀ s, fX3_arcRuleAnswer s (nI c) v = why) := by
  unfold fX4_works fX3_arcRuleAnswer fX3_arcValue fX4_lost
  simp only [if_neg (show ¬ (1 : Int32) = 2 by decide)]
  rcases (show c = 0 ∨ c = 1 ∨ c = 2 ∨ c = 3 ∨ c = 4 ∨ c = 5 ∨ c = 6 by omega) with rfl | rfl | rfl | rfl | rfl | rfl | rfl
  · exact Or.inl ⟨_, fun s => rfl, fun s => rfl, fun s => rfl⟩
  · exact Or.inl ⟨_, fun s => rfl, fun s => rfl, fun s => rfl⟩
  · exact Or.inl ⟨_, fun s => rfl, fun s => rfl, fun s => rfl⟩
  · by_cases q : lg_cmp v 0 = 0
    · refine Or.inr ⟨(-5), by decide, by decide, by decide, fun s => ?_, fun s => ?_⟩
      · simp only [if_pos q]
        rfl
      · simp only [if_pos q]
        rfl
    · refine Or.inl ⟨100 / v, fun s => ?_, fun s => ?_, fun s => ?_⟩
      · simp only [if_neg q]
        rfl
      · simp only [if_neg q]
        rfl
      · simp only [if_neg q]
        rfl
  · by_cases q : lg_cmp v 0 = 0
    · refine Or.inr ⟨(-5), by decide, by decide, by decide, fun s => ?_, fun s => ?_⟩
      · simp only [if_pos q]
        rfl
      · simp only [if_pos q]
        rfl
    · refine Or.inl ⟨100 - 100 / v * v, fun s => ?_, fun s => ?_, fun s => ?_⟩
      · simp only [if_neg q]
        rfl
      · simp only [if_neg q]
        rfl
      · simp only [if_neg q]
        rfl
  · by_cases q : lg_cmp v 0 < 0
    · refine Or.inr ⟨(-6), by decide, by decide, by decide, fun s => ?_, fun s => ?_⟩
      · simp only [if_pos q]
        rfl
      · simp only [if_pos q]
        rfl
    · by_cases q2 : lg_cmp v ((3 : Int32).toInt64) < 0
      · have q3 := lg3.mp q2
        have e := wi_val q q2
        refine Or.inl ⟨5 + 2 * v, fun s => ?_, fun s => ?_, fun s => ?_⟩
        · simp only [if_neg q, if_pos q3]
          rfl
        · simp only [if_neg q, if_pos q2]
          rfl
        · simp only [if_neg q, if_pos q2, e]
          rfl
      · have q3 : ¬ lg_cmp v 2 ≤ 0 := fun z => q2 (lg3.mpr z)
        refine Or.inr ⟨(-6), by decide, by decide, by decide, fun s => ?_, fun s => ?_⟩
        · simp only [if_neg q, if_neg q3]
          rfl
        · simp only [if_neg q, if_neg q2]
          rfl
  · by_cases q : 0 ≤ lg_cmp v 0
    · refine Or.inl ⟨v, fun s => ?_, fun s => ?_, fun s => ?_⟩
      · simp only [if_pos q]
        rfl
      · simp only [if_pos q]
        rfl
      · rfl
    · refine Or.inr ⟨(-7), by decide, by decide, by decide, fun s => ?_, fun s => ?_⟩
      · simp only [if_neg q]
        rfl
      · simp only [if_neg q]
        rfl
/-- a rule is asked: what the class does, what the reference does -/
theorem ask_k {st : ow_St} (h : rl_sta st) {k c : Nat} (hk : k < 3) (hc : c < mn k) (v : Int64) :
    (∃ val, askK k st (nI c) v = (1, ow_si st 1 k 1) ∧ (∀ s, valK k s (nI c) v = val) ∧ (∀ z : ow_St, z.1 52 k = st.1 52 k → z.1 53 k = st.1 53 k → fX4_begin z (nI k) = (0, ow_si z 52 k 1)) ∧ ∀ s, fX4_works s (nI k) (nI c) v = (1, ow_sl s 2 val)) ∨
    (∃ why, ¬ why = 1 ∧ ¬ why = (-8) ∧ ¬ why = (-9) ∧ askK k st (nI c) v = (why, ow_si (ow_si st 1 k 1) 0 0 (st.1 0 0 + 1)) ∧ (∀ z : ow_St, z.1 52 k = st.1 52 k → z.1 53 k = st.1 53 k → fX4_begin z (nI k) = (0, ow_si z 52 k 1)) ∧ ∀ s : ow_St, fX4_works s (nI k) (nI c) v = (why, ow_si s 61 0 (s.1 61 0 + 1))) ∨
    (askK k st (nI c) v = ((-8), ow_si st 1 k 2) ∧ ∀ z : ow_St, z.1 52 k = st.1 52 k → z.1 53 k = st.1 53 k → fX4_begin z (nI k) = ((-8), ow_si z 52 k 2)) ∨
    (askK k st (nI c) v = ((-9), st) ∧ ∀ z : ow_St, z.1 52 k = st.1 52 k → z.1 53 k = st.1 53 k → fX4_begin z (nI k) = ((-9), z)) := by
  rcases start_k h hk with ⟨e, b⟩ | ⟨e, b⟩ | ⟨e, b⟩
  · rcases k3 hk with rfl | rfl | rfl
    · refine Or.inl ⟨fX3_nodeValue st (nI c) v, ?_, fun s => ?_, b, fun s => works_0 hc v s st⟩
      · unfold askK fX3_askRule_0
        rw [if_pos rfl, e]
        rfl
      · rfl
    · rcases works_1 hc v with ⟨val, w1, w2, w3⟩ | ⟨why, n1, n2, n3, w1, w2⟩
      · refine Or.inl ⟨val, ?_, fun s => w3 s, b, w1⟩
        unfold askK fX3_askRule_1
        rw [if_neg (by decide), if_pos rfl, e]
        dsimp only
        rw [if_pos rfl, w2, if_pos rfl]
      · refine Or.inr (Or.inl ⟨why, n1, n2, n3, ?_, b, w1⟩)
        unfold askK fX3_askRule_1
        rw [if_neg (by decide), if_pos rfl, e]
        dsimp only
        rw [if_pos rfl, w2, if_neg n1, ow_si_ne (by decide)]
    · refine Or.inl ⟨v ^^^ (nI c).toInt64, ?_, fun s => ?_, b, fun s => ?_⟩
      · unfold askK fX3_askRule_2
        rw [if_neg (by decide), if_neg (by decide), e]
        rfl
      · rfl
      · unfold fX4_works
        rw [if_pos (show nI 2 = 2 from rfl)]
  · refine Or.inr (Or.inr (Or.inl ⟨?_, b⟩))
    rcases k3 hk with rfl | rfl | rfl
    · unfold askK fX3_askRule_0
      rw [if_pos rfl, e]
      rfl
    · unfold askK fX3_askRule_1
      rw [if_neg (by decide), if_pos rfl, e]
      rfl
    · unfold askK fX3_askRule_2
      rw [if_neg (by decide), if_neg (by decide), e]
      rfl
  · refine Or.inr (Or.inr (Or.inr ⟨?_, b⟩))
    rcases k3 hk with rfl | rfl | rfl
    · unfold askK fX3_askRule_0
      rw [if_pos rfl, e]
      rfl
    · unfold askK fX3_askRule_1
      rw [if_neg (by decide), if_pos rfl, e]
      rfl
    · unfold askK fX3_askRule_2
      rw [if_neg (by decide), if_neg (by decide), e]
      rfl
theorem sta_s {st st' : ow_St} (h : rl_sta st) {k : Nat} {v : Int32} (hv : v = 1 ∨ v = 2) (e1 : st'.1 1 = (ow_si st 1 k v).1 1) (e2 : st'.1 2 = st.1 2) (e3 : st'.1 52 = (ow_si st 52 k v).1 52) (e4 : st'.1 53 = st.1 53) : rl_sta st' := by
  intro i hi
  obtain ⟨a1, a2, a3⟩ := h i hi
  rw [e1, e2, e3, e4]
  by_cases e : i = k
  · subst e
    rw [ow_si_e, ow_si_e]
    refine ⟨rfl, a2, Or.inr hv⟩
  · rw [ow_si_n2 (by omega), ow_si_n2 (by omega)]
    exact ⟨a1, a2, a3⟩
theorem mk_rule {st : ow_St} (h : RLs st) (x1 x2 : Int32) (x3 : Int64) : sameM st (fX3_rule st x1 x2 x3).2 := by
  rcases kcase x1 with ⟨k, hk, rfl⟩ | ⟨h0, h1, h2⟩
  · rw [rule_k hk]
    by_cases c1 : fX0_has st k x2 = 0
    · rw [if_pos c1]
      exact same_rf st
    · rw [if_neg c1]
      obtain ⟨j, c, hj, hc, rfl, -, -, e3⟩ := con_at h.1 hk c1
      rw [e3]
      rcases ask_k h.2.2.2.1 hk hc x3 with ⟨val, e, -, -, -⟩ | ⟨why, n1, -, -, e, -, -⟩ | ⟨e, -⟩ | ⟨e, -⟩
      · rw [e, if_pos rfl]
        exact ⟨fun c h1 h2 => by simp (disch := omega) only [ow_si_ne, ow_sl_i, ow_sr_i], (by simp (disch := omega) only [ow_si_ne, ow_si_n2, ow_si_e, ow_sl_i, ow_sr_i, ow_si_l, ow_si_r, ow_sl_r, ow_sr_l, ow_sl_n, ow_sl_e, ow_sr_n, ow_sr_e]), (by simp (disch := omega) only [ow_si_ne, ow_si_n2, ow_si_e, ow_sl_i, ow_sr_i, ow_si_l, ow_si_r, ow_sl_r, ow_sr_l, ow_sl_n, ow_sl_e, ow_sr_n, ow_sr_e])⟩
      · rw [e, if_neg n1]
        exact ⟨fun c h1 h2 => by simp (disch := omega) only [ow_si_ne, ow_sl_i, ow_sr_i], (by simp (disch := omega) only [ow_si_ne, ow_si_n2, ow_si_e, ow_sl_i, ow_sr_i, ow_si_l, ow_si_r, ow_sl_r, ow_sr_l, ow_sl_n, ow_sl_e, ow_sr_n, ow_sr_e]), (by simp (disch := omega) only [ow_si_ne, ow_si_n2, ow_si_e, ow_sl_i, ow_sr_i, ow_si_l, ow_si_r, ow_sl_r, ow_sr_l, ow_sl_n, ow_sl_e, ow_sr_n, ow_sr_e])⟩
      · rw [e, if_neg (show ¬ (-8 : Int32) = 1 by decide)]
        exact ⟨fun c h1 h2 => by simp (disch := omega) only [ow_si_ne, ow_sl_i, ow_sr_i], (by simp (disch := omega) only [ow_si_ne, ow_si_n2, ow_si_e, ow_sl_i, ow_sr_i, ow_si_l, ow_si_r, ow_sl_r, ow_sr_l, ow_sl_n, ow_sl_e, ow_sr_n, ow_sr_e]), (by simp (disch := omega) only [ow_si_ne, ow_si_n2, ow_si_e, ow_sl_i, ow_sr_i, ow_si_l, ow_si_r, ow_sl_r, ow_sr_l, ow_sl_n, ow_sl_e, ow_sr_n, ow_sr_e])⟩
      · rw [e, if_neg (show ¬ (-9 : Int32) = 1 by decide)]
        exact same_rf st
  · rw [rule_n h0 h1 h2]
    exact same_rf st
theorem eq_rule {st : ow_St} (h : RLs st) (x1 x2 : Int32) (x3 : Int64) : (fX3_rule st x1 x2 x3).1 = (fX4_rule (fX3_rule st x1 x2 x3).2 x1 x2 x3).1 ∧ RLs (fX4_rule (fX3_rule st x1 x2 x3).2 x1 x2 x3).2 := by
  rcases kcase x1 with ⟨k, hk, rfl⟩ | ⟨h0, h1, h2⟩
  · rw [rule_k hk]
    by_cases c1 : fX0_has st k x2 = 0
    · rw [if_pos c1]
      unfold fX4_rule
      rw [if_neg (isK_k hk), if_pos (by rw [← has_code (st := st) hk]; exact c1)]
      exact ⟨rfl, h⟩
    · rw [if_neg c1]
      obtain ⟨j, c, hj, hc, rfl, -, -, e3⟩ := con_at h.1 hk c1
      have hcn : ∀ z : ow_St, z.1 51 = st.1 51 → fX4_constant z (nI k) (nI j) = nI c := fun z hz => by rw [con_row hz, ← con_eq h.1 hk, e3]
      have c2 : ∀ z : ow_St, ¬ fX4_isCode z (nI k) (nI j) = 0 := fun z => by rw [← has_code (st := st) hk]; exact c1
      rw [e3]
      obtain ⟨n1, n2, n3⟩ := h.2.2.2.2.1
      rcases ask_k h.2.2.2.1 hk hc x3 with ⟨val, e, ev, eb, ew⟩ | ⟨why, m1, m2, m3, e, eb, ew⟩ | ⟨e, eb⟩ | ⟨e, eb⟩
      · rw [e, if_pos rfl]
        dsimp only
        rw [ev]
        unfold fX4_rule
        rw [if_neg (isK_k hk), if_neg (c2 _), eb _ (by simp (disch := omega) only [ow_si_ne, ow_si_n2, ow_si_e, ow_sl_i, ow_sr_i, ow_si_l, ow_si_r, ow_sl_r, ow_sr_l, ow_sl_n, ow_sl_e, ow_sr_n, ow_sr_e]) (by simp (disch := omega) only [ow_si_ne, ow_si_n2, ow_si_e, ow_sl_i, ow_sr_i, ow_si_l, ow_si_r, ow_sl_r, ow_sr_l, ow_sl_n, ow_sl_e, ow_sr_n, ow_sr_e])]
        dsimp only
        rw [if_pos rfl, hcn _ (by simp (disch := omega) only [ow_si_ne, ow_si_n2, ow_si_e, ow_sl_i, ow_sr_i, ow_si_l, ow_si_r, ow_sl_r, ow_sr_l, ow_sl_n, ow_sl_e, ow_sr_n, ow_sr_e]), ew]
        dsimp only
        rw [if_pos rfl]
        refine ⟨rfl, ⟨(con_c h.1 (fun k hk => (by simp (disch := omega) only [ow_si_ne, ow_si_n2, ow_si_e, ow_sl_i, ow_sr_i, ow_si_l, ow_si_r, ow_sl_r, ow_sr_l, ow_sl_n, ow_sl_e, ow_sr_n, ow_sr_e])) (by simp (disch := omega) only [ow_si_ne, ow_si_n2, ow_si_e, ow_sl_i, ow_sr_i, ow_si_l, ow_si_r, ow_sl_r, ow_sr_l, ow_sl_n, ow_sl_e, ow_sr_n, ow_sr_e])), (cod_c h.2.1 (fun k hk => (by simp (disch := omega) only [ow_si_ne, ow_si_n2, ow_si_e, ow_sl_i, ow_sr_i, ow_si_l, ow_si_r, ow_sl_r, ow_sr_l, ow_sl_n, ow_sl_e, ow_sr_n, ow_sr_e])) (by simp (disch := omega) only [ow_si_ne, ow_si_n2, ow_si_e, ow_sl_i, ow_sr_i, ow_si_l, ow_si_r, ow_sl_r, ow_sr_l, ow_sl_n, ow_sl_e, ow_sr_n, ow_sr_e])), (inj_c h.2.2.1 (by simp (disch := omega) only [ow_si_ne, ow_si_n2, ow_si_e, ow_sl_i, ow_sr_i, ow_si_l, ow_si_r, ow_sl_r, ow_sr_l, ow_sl_n, ow_sl_e, ow_sr_n, ow_sr_e])), (sta_s (k := k) (v := 1) h.2.2.2.1 (Or.inl rfl) (by simp (disch := omega) only [ow_si_ne, ow_si_n2, ow_si_e, ow_sl_i, ow_sr_i, ow_si_l, ow_si_r, ow_sl_r, ow_sr_l, ow_sl_n, ow_sl_e, ow_sr_n, ow_sr_e]) (by simp (disch := omega) only [ow_si_ne, ow_si_n2, ow_si_e, ow_sl_i, ow_sr_i, ow_si_l, ow_si_r, ow_sl_r, ow_sr_l, ow_sl_n, ow_sl_e, ow_sr_n, ow_sr_e]) (by simp (disch := omega) only [ow_si_ne, ow_sl_i, ow_si_u]) (by simp (disch := omega) only [ow_si_ne, ow_si_n2, ow_si_e, ow_sl_i, ow_sr_i, ow_si_l, ow_si_r, ow_sl_r, ow_sr_l, ow_sl_n, ow_sl_e, ow_sr_n, ow_sr_e])), ⟨by simp (disch := omega) only [ow_si_ne, ow_si_n2, ow_si_e, ow_sl_i, ow_sr_i, ow_si_l, ow_si_r, ow_sl_r, ow_sr_l, ow_sl_n, ow_sl_e, ow_sr_n, ow_sr_e], by simp (disch := omega) only [ow_si_ne, ow_si_n2, ow_si_e, ow_sl_i, ow_sr_i, ow_si_l, ow_si_r, ow_sl_r, ow_sr_l, ow_sl_n, ow_sl_e, ow_sr_n, ow_sr_e]; exact n2, by simp (disch := omega) only [ow_si_ne, ow_si_n2, ow_si_e, ow_sl_i, ow_sr_i, ow_si_l, ow_si_r, ow_sl_r, ow_sr_l, ow_sl_n, ow_sl_e, ow_sr_n, ow_sr_e]; exact n3⟩, (fnd_c h.2.2.2.2.2.1 (by simp (disch := omega) only [ow_si_ne, ow_si_n2, ow_si_e, ow_sl_i, ow_sr_i, ow_si_l, ow_si_r, ow_sl_r, ow_sr_l, ow_sl_n, ow_sl_e, ow_sr_n, ow_sr_e]) (by simp (disch := omega) only [ow_si_ne, ow_si_n2, ow_si_e, ow_sl_i, ow_sr_i, ow_si_l, ow_si_r, ow_sl_r, ow_sr_l, ow_sl_n, ow_sl_e, ow_sr_n, ow_sr_e]) (by simp (disch := omega) only [ow_si_ne, ow_si_n2, ow_si_e, ow_sl_i, ow_sr_i, ow_si_l, ow_si_r, ow_sl_r, ow_sr_l, ow_sl_n, ow_sl_e, ow_sr_n, ow_sr_e]) (by simp (disch := omega) only [ow_si_ne, ow_si_n2, ow_si_e, ow_sl_i, ow_sr_i, ow_si_l, ow_si_r, ow_sl_r, ow_sr_l, ow_sl_n, ow_sl_e, ow_sr_n, ow_sr_e])), (set_c h.2.2.2.2.2.2.1 (fun j => (by simp (disch := omega) only [ow_si_ne, ow_si_n2, ow_si_e, ow_sl_i, ow_sr_i, ow_si_l, ow_si_r, ow_sl_r, ow_sr_l, ow_sl_n, ow_sl_e, ow_sr_n, ow_sr_e])) (by simp (disch := omega) only [ow_si_ne, ow_si_n2, ow_si_e, ow_sl_i, ow_sr_i, ow_si_l, ow_si_r, ow_sl_r, ow_sr_l, ow_sl_n, ow_sl_e, ow_sr_n, ow_sr_e]) (by simp (disch := omega) only [ow_si_ne, ow_si_n2, ow_si_e, ow_sl_i, ow_sr_i, ow_si_l, ow_si_r, ow_sl_r, ow_sr_l, ow_sl_n, ow_sl_e, ow_sr_n, ow_sr_e]) (by simp (disch := omega) only [ow_si_ne, ow_si_n2, ow_si_e, ow_sl_i, ow_sr_i, ow_si_l, ow_si_r, ow_sl_r, ow_sr_l, ow_sl_n, ow_sl_e, ow_sr_n, ow_sr_e])), (tab_c h.2.2.2.2.2.2.2.1 (by simp (disch := omega) only [ow_si_ne, ow_si_n2, ow_si_e, ow_sl_i, ow_sr_i, ow_si_l, ow_si_r, ow_sl_r, ow_sr_l, ow_sl_n, ow_sl_e, ow_sr_n, ow_sr_e]) (by simp (disch := omega) only [ow_si_ne, ow_si_n2, ow_si_e, ow_sl_i, ow_sr_i, ow_si_l, ow_si_r, ow_sl_r, ow_sr_l, ow_sl_n, ow_sl_e, ow_sr_n, ow_sr_e])), (cel_c h.2.2.2.2.2.2.2.2.1 (by simp (disch := omega) only [ow_si_ne, ow_si_n2, ow_si_e, ow_sl_i, ow_sr_i, ow_si_l, ow_si_r, ow_sl_r, ow_sr_l, ow_sl_n, ow_sl_e, ow_sr_n, ow_sr_e]) (by simp (disch := omega) only [ow_si_ne, ow_si_n2, ow_si_e, ow_sl_i, ow_sr_i, ow_si_l, ow_si_r, ow_sl_r, ow_sr_l, ow_sl_n, ow_sl_e, ow_sr_n, ow_sr_e]) (by simp (disch := omega) only [ow_si_ne, ow_si_n2, ow_si_e, ow_sl_i, ow_sr_i, ow_si_l, ow_si_r, ow_sl_r, ow_sr_l, ow_sl_n, ow_sl_e, ow_sr_n, ow_sr_e]) (by simp (disch := omega) only [ow_si_ne, ow_si_n2, ow_si_e, ow_sl_i, ow_sr_i, ow_si_l, ow_si_r, ow_sl_r, ow_sr_l, ow_sl_n, ow_sl_e, ow_sr_n, ow_sr_e]) (by simp (disch := omega) only [ow_si_ne, ow_si_n2, ow_si_e, ow_sl_i, ow_sr_i, ow_si_l, ow_si_r, ow_sl_r, ow_sr_l, ow_sl_n, ow_sl_e, ow_sr_n, ow_sr_e]) (by simp (disch := omega) only [ow_si_ne, ow_si_n2, ow_si_e, ow_sl_i, ow_sr_i, ow_si_l, ow_si_r, ow_sl_r, ow_sr_l, ow_sl_n, ow_sl_e, ow_sr_n, ow_sr_e]) (by simp (disch := omega) only [ow_si_ne, ow_si_n2, ow_si_e, ow_sl_i, ow_sr_i, ow_si_l, ow_si_r, ow_sl_r, ow_sr_l, ow_sl_n, ow_sl_e, ow_sr_n, ow_sr_e]) (by simp (disch := omega) only [ow_si_ne, ow_si_n2, ow_si_e, ow_sl_i, ow_sr_i, ow_si_l, ow_si_r, ow_sl_r, ow_sr_l, ow_sl_n, ow_sl_e, ow_sr_n, ow_sr_e])), (par_c h.2.2.2.2.2.2.2.2.2 (by simp (disch := omega) only [ow_si_ne, ow_si_n2, ow_si_e, ow_sl_i, ow_sr_i, ow_si_l, ow_si_r, ow_sl_r, ow_sr_l, ow_sl_n, ow_sl_e, ow_sr_n, ow_sr_e]) (by simp (disch := omega) only [ow_si_ne, ow_si_n2, ow_si_e, ow_sl_i, ow_sr_i, ow_si_l, ow_si_r, ow_sl_r, ow_sr_l, ow_sl_n, ow_sl_e, ow_sr_n, ow_sr_e]) (by simp (disch := omega) only [ow_si_ne, ow_si_n2, ow_si_e, ow_sl_i, ow_sr_i, ow_si_l, ow_si_r, ow_sl_r, ow_sr_l, ow_sl_n, ow_sl_e, ow_sr_n, ow_sr_e]) (by simp (disch := omega) only [ow_si_ne, ow_si_n2, ow_si_e, ow_sl_i, ow_sr_i, ow_si_l, ow_si_r, ow_sl_r, ow_sr_l, ow_sl_n, ow_sl_e, ow_sr_n, ow_sr_e]))⟩⟩
      · rw [e, if_neg m1]
        dsimp only
        unfold fX4_rule
        rw [if_neg (isK_k hk), if_neg (c2 _), eb _ (by simp (disch := omega) only [ow_si_ne, ow_si_n2, ow_si_e, ow_sl_i, ow_sr_i, ow_si_l, ow_si_r, ow_sl_r, ow_sr_l, ow_sl_n, ow_sl_e, ow_sr_n, ow_sr_e]) (by simp (disch := omega) only [ow_si_ne, ow_si_n2, ow_si_e, ow_sl_i, ow_sr_i, ow_si_l, ow_si_r, ow_sl_r, ow_sr_l, ow_sl_n, ow_sl_e, ow_sr_n, ow_sr_e])]
        dsimp only
        rw [if_pos rfl, hcn _ (by simp (disch := omega) only [ow_si_ne, ow_si_n2, ow_si_e, ow_sl_i, ow_sr_i, ow_si_l, ow_si_r, ow_sl_r, ow_sr_l, ow_sl_n, ow_sl_e, ow_sr_n, ow_sr_e]), ew]
        dsimp only
        rw [if_neg m1]
        refine ⟨rfl, ⟨(con_c h.1 (fun k hk => (by simp (disch := omega) only [ow_si_ne, ow_si_n2, ow_si_e, ow_sl_i, ow_sr_i, ow_si_l, ow_si_r, ow_sl_r, ow_sr_l, ow_sl_n, ow_sl_e, ow_sr_n, ow_sr_e])) (by simp (disch := omega) only [ow_si_ne, ow_si_n2, ow_si_e, ow_sl_i, ow_sr_i, ow_si_l, ow_si_r, ow_sl_r, ow_sr_l, ow_sl_n, ow_sl_e, ow_sr_n, ow_sr_e])), (cod_c h.2.1 (fun k hk => (by simp (disch := omega) only [ow_si_ne, ow_si_n2, ow_si_e, ow_sl_i, ow_sr_i, ow_si_l, ow_si_r, ow_sl_r, ow_sr_l, ow_sl_n, ow_sl_e, ow_sr_n, ow_sr_e])) (by simp (disch := omega) only [ow_si_ne, ow_si_n2, ow_si_e, ow_sl_i, ow_sr_i, ow_si_l, ow_si_r, ow_sl_r, ow_sr_l, ow_sl_n, ow_sl_e, ow_sr_n, ow_sr_e])), (inj_c h.2.2.1 (by simp (disch := omega) only [ow_si_ne, ow_si_n2, ow_si_e, ow_sl_i, ow_sr_i, ow_si_l, ow_si_r, ow_sl_r, ow_sr_l, ow_sl_n, ow_sl_e, ow_sr_n, ow_sr_e])), (sta_s (k := k) (v := 1) h.2.2.2.1 (Or.inl rfl) (by simp (disch := omega) only [ow_si_ne, ow_si_n2, ow_si_e, ow_sl_i, ow_sr_i, ow_si_l, ow_si_r, ow_sl_r, ow_sr_l, ow_sl_n, ow_sl_e, ow_sr_n, ow_sr_e]) (by simp (disch := omega) only [ow_si_ne, ow_si_n2, ow_si_e, ow_sl_i, ow_sr_i, ow_si_l, ow_si_r, ow_sl_r, ow_sr_l, ow_sl_n, ow_sl_e, ow_sr_n, ow_sr_e]) (by simp (disch := omega) only [ow_si_ne, ow_sl_i, ow_si_u]) (by simp (disch := omega) only [ow_si_ne, ow_si_n2, ow_si_e, ow_sl_i, ow_sr_i, ow_si_l, ow_si_r, ow_sl_r, ow_sr_l, ow_sl_n, ow_sl_e, ow_sr_n, ow_sr_e])), ⟨by simp (disch := omega) only [ow_si_ne, ow_si_n2, ow_si_e, ow_sl_i, ow_sr_i, ow_si_l, ow_si_r, ow_sl_r, ow_sr_l, ow_sl_n, ow_sl_e, ow_sr_n, ow_sr_e]; exact n1, by simp (disch := omega) only [ow_si_ne, ow_si_n2, ow_si_e, ow_sl_i, ow_sr_i, ow_si_l, ow_si_r, ow_sl_r, ow_sr_l, ow_sl_n, ow_sl_e, ow_sr_n, ow_sr_e]; rw [n2], by simp (disch := omega) only [ow_si_ne, ow_si_n2, ow_si_e, ow_sl_i, ow_sr_i, ow_si_l, ow_si_r, ow_sl_r, ow_sr_l, ow_sl_n, ow_sl_e, ow_sr_n, ow_sr_e]; exact n3⟩, (fnd_c h.2.2.2.2.2.1 (by simp (disch := omega) only [ow_si_ne, ow_si_n2, ow_si_e, ow_sl_i, ow_sr_i, ow_si_l, ow_si_r, ow_sl_r, ow_sr_l, ow_sl_n, ow_sl_e, ow_sr_n, ow_sr_e]) (by simp (disch := omega) only [ow_si_ne, ow_si_n2, ow_si_e, ow_sl_i, ow_sr_i, ow_si_l, ow_si_r, ow_sl_r, ow_sr_l, ow_sl_n, ow_sl_e, ow_sr_n, ow_sr_e]) (by simp (disch := omega) only [ow_si_ne, ow_si_n2, ow_si_e, ow_sl_i, ow_sr_i, ow_si_l, ow_si_r, ow_sl_r, ow_sr_l, ow_sl_n, ow_sl_e, ow_sr_n, ow_sr_e]) (by simp (disch := omega) only [ow_si_ne, ow_si_n2, ow_si_e, ow_sl_i, ow_sr_i, ow_si_l, ow_si_r, ow_sl_r, ow_sr_l, ow_sl_n, ow_sl_e, ow_sr_n, ow_sr_e])), (set_c h.2.2.2.2.2.2.1 (fun j => (by simp (disch := omega) only [ow_si_ne, ow_si_n2, ow_si_e, ow_sl_i, ow_sr_i, ow_si_l, ow_si_r, ow_sl_r, ow_sr_l, ow_sl_n, ow_sl_e, ow_sr_n, ow_sr_e])) (by simp (disch := omega) only [ow_si_ne, ow_si_n2, ow_si_e, ow_sl_i, ow_sr_i, ow_si_l, ow_si_r, ow_sl_r, ow_sr_l, ow_sl_n, ow_sl_e, ow_sr_n, ow_sr_e]) (by simp (disch := omega) only [ow_si_ne, ow_si_n2, ow_si_e, ow_sl_i, ow_sr_i, ow_si_l, ow_si_r, ow_sl_r, ow_sr_l, ow_sl_n, ow_sl_e, ow_sr_n, ow_sr_e]) (by simp (disch := omega) only [ow_si_ne, ow_si_n2, ow_si_e, ow_sl_i, ow_sr_i, ow_si_l, ow_si_r, ow_sl_r, ow_sr_l, ow_sl_n, ow_sl_e, ow_sr_n, ow_sr_e])), (tab_c h.2.2.2.2.2.2.2.1 (by simp (disch := omega) only [ow_si_ne, ow_si_n2, ow_si_e, ow_sl_i, ow_sr_i, ow_si_l, ow_si_r, ow_sl_r, ow_sr_l, ow_sl_n, ow_sl_e, ow_sr_n, ow_sr_e]) (by simp (disch := omega) only [ow_si_ne, ow_si_n2, ow_si_e, ow_sl_i, ow_sr_i, ow_si_l, ow_si_r, ow_sl_r, ow_sr_l, ow_sl_n, ow_sl_e, ow_sr_n, ow_sr_e])), (cel_c h.2.2.2.2.2.2.2.2.1 (by simp (disch := omega) only [ow_si_ne, ow_si_n2, ow_si_e, ow_sl_i, ow_sr_i, ow_si_l, ow_si_r, ow_sl_r, ow_sr_l, ow_sl_n, ow_sl_e, ow_sr_n, ow_sr_e]) (by simp (disch := omega) only [ow_si_ne, ow_si_n2, ow_si_e, ow_sl_i, ow_sr_i, ow_si_l, ow_si_r, ow_sl_r, ow_sr_l, ow_sl_n, ow_sl_e, ow_sr_n, ow_sr_e]) (by simp (disch := omega) only [ow_si_ne, ow_si_n2, ow_si_e, ow_sl_i, ow_sr_i, ow_si_l, ow_si_r, ow_sl_r, ow_sr_l, ow_sl_n, ow_sl_e, ow_sr_n, ow_sr_e]) (by simp (disch := omega) only [ow_si_ne, ow_si_n2, ow_si_e, ow_sl_i, ow_sr_i, ow_si_l, ow_si_r, ow_sl_r, ow_sr_l, ow_sl_n, ow_sl_e, ow_sr_n, ow_sr_e]) (by simp (disch := omega) only [ow_si_ne, ow_si_n2, ow_si_e, ow_sl_i, ow_sr_i, ow_si_l, ow_si_r, ow_sl_r, ow_sr_l, ow_sl_n, ow_sl_e, ow_sr_n, ow_sr_e]) (by simp (disch := omega) only [ow_si_ne, ow_si_n2, ow_si_e, ow_sl_i, ow_sr_i, ow_si_l, ow_si_r, ow_sl_r, ow_sr_l, ow_sl_n, ow_sl_e, ow_sr_n, ow_sr_e]) (by simp (disch := omega) only [ow_si_ne, ow_si_n2, ow_si_e, ow_sl_i, ow_sr_i, ow_si_l, ow_si_r, ow_sl_r, ow_sr_l, ow_sl_n, ow_sl_e, ow_sr_n, ow_sr_e]) (by simp (disch := omega) only [ow_si_ne, ow_si_n2, ow_si_e, ow_sl_i, ow_sr_i, ow_si_l, ow_si_r, ow_sl_r, ow_sr_l, ow_sl_n, ow_sl_e, ow_sr_n, ow_sr_e])), (par_c h.2.2.2.2.2.2.2.2.2 (by simp (disch := omega) only [ow_si_ne, ow_si_n2, ow_si_e, ow_sl_i, ow_sr_i, ow_si_l, ow_si_r, ow_sl_r, ow_sr_l, ow_sl_n, ow_sl_e, ow_sr_n, ow_sr_e]) (by simp (disch := omega) only [ow_si_ne, ow_si_n2, ow_si_e, ow_sl_i, ow_sr_i, ow_si_l, ow_si_r, ow_sl_r, ow_sr_l, ow_sl_n, ow_sl_e, ow_sr_n, ow_sr_e]) (by simp (disch := omega) only [ow_si_ne, ow_si_n2, ow_si_e, ow_sl_i, ow_sr_i, ow_si_l, ow_si_r, ow_sl_r, ow_sr_l, ow_sl_n, ow_sl_e, ow_sr_n, ow_sr_e]) (by simp (disch := omega) only [ow_si_ne, ow_si_n2, ow_si_e, ow_sl_i, ow_sr_i, ow_si_l, ow_si_r, ow_sl_r, ow_sr_l, ow_sl_n, ow_sl_e, ow_sr_n, ow_sr_e]))⟩⟩
      · rw [e, if_neg (show ¬ (-8 : Int32) = 1 by decide)]
        dsimp only
        unfold fX4_rule
        rw [if_neg (isK_k hk), if_neg (c2 _), eb _ (by simp (disch := omega) only [ow_si_ne, ow_si_n2, ow_si_e, ow_sl_i, ow_sr_i, ow_si_l, ow_si_r, ow_sl_r, ow_sr_l, ow_sl_n, ow_sl_e, ow_sr_n, ow_sr_e]) (by simp (disch := omega) only [ow_si_ne, ow_si_n2, ow_si_e, ow_sl_i, ow_sr_i, ow_si_l, ow_si_r, ow_sl_r, ow_sr_l, ow_sl_n, ow_sl_e, ow_sr_n, ow_sr_e])]
        dsimp only
        rw [if_neg (by decide)]
        exact ⟨rfl, ⟨(con_c h.1 (fun k hk => (by simp (disch := omega) only [ow_si_ne, ow_si_n2, ow_si_e, ow_sl_i, ow_sr_i, ow_si_l, ow_si_r, ow_sl_r, ow_sr_l, ow_sl_n, ow_sl_e, ow_sr_n, ow_sr_e])) (by simp (disch := omega) only [ow_si_ne, ow_si_n2, ow_si_e, ow_sl_i, ow_sr_i, ow_si_l, ow_si_r, ow_sl_r, ow_sr_l, ow_sl_n, ow_sl_e, ow_sr_n, ow_sr_e])), (cod_c h.2.1 (fun k hk => (by simp (disch := omega) only [ow_si_ne, ow_si_n2, ow_si_e, ow_sl_i, ow_sr_i, ow_si_l, ow_si_r, ow_sl_r, ow_sr_l, ow_sl_n, ow_sl_e, ow_sr_n, ow_sr_e])) (by simp (disch := omega) only [ow_si_ne, ow_si_n2, ow_si_e, ow_sl_i, ow_sr_i, ow_si_l, ow_si_r, ow_sl_r, ow_sr_l, ow_sl_n, ow_sl_e, ow_sr_n, ow_sr_e])), (inj_c h.2.2.1 (by simp (disch := omega) only [ow_si_ne, ow_si_n2, ow_si_e, ow_sl_i, ow_sr_i, ow_si_l, ow_si_r, ow_sl_r, ow_sr_l, ow_sl_n, ow_sl_e, ow_sr_n, ow_sr_e])), (sta_s (k := k) (v := 2) h.2.2.2.1 (Or.inr rfl) (by simp (disch := omega) only [ow_si_ne, ow_si_n2, ow_si_e, ow_sl_i, ow_sr_i, ow_si_l, ow_si_r, ow_sl_r, ow_sr_l, ow_sl_n, ow_sl_e, ow_sr_n, ow_sr_e]) (by simp (disch := omega) only [ow_si_ne, ow_si_n2, ow_si_e, ow_sl_i, ow_sr_i, ow_si_l, ow_si_r, ow_sl_r, ow_sr_l, ow_sl_n, ow_sl_e, ow_sr_n, ow_sr_e]) (by simp (disch := omega) only [ow_si_ne, ow_sl_i, ow_si_u]) (by simp (disch := omega) only [ow_si_ne, ow_si_n2, ow_si_e, ow_sl_i, ow_sr_i, ow_si_l, ow_si_r, ow_sl_r, ow_sr_l, ow_sl_n, ow_sl_e, ow_sr_n, ow_sr_e])), (num_c h.2.2.2.2.1 (by simp (disch := omega) only [ow_si_ne, ow_si_n2, ow_si_e, ow_sl_i, ow_sr_i, ow_si_l, ow_si_r, ow_sl_r, ow_sr_l, ow_sl_n, ow_sl_e, ow_sr_n, ow_sr_e]) (by simp (disch := omega) only [ow_si_ne, ow_si_n2, ow_si_e, ow_sl_i, ow_sr_i, ow_si_l, ow_si_r, ow_sl_r, ow_sr_l, ow_sl_n, ow_sl_e, ow_sr_n, ow_sr_e]) (by simp (disch := omega) only [ow_si_ne, ow_si_n2, ow_si_e, ow_sl_i, ow_sr_i, ow_si_l, ow_si_r, ow_sl_r, ow_sr_l, ow_sl_n, ow_sl_e, ow_sr_n, ow_sr_e]) (by simp (disch := omega) only [ow_si_ne, ow_si_n2, ow_si_e, ow_sl_i, ow_sr_i, ow_si_l, ow_si_r, ow_sl_r, ow_sr_l, ow_sl_n, ow_sl_e, ow_sr_n, ow_sr_e]) (by simp (disch := omega) only [ow_si_ne, ow_si_n2, ow_si_e, ow_sl_i, ow_sr_i, ow_si_l, ow_si_r, ow_sl_r, ow_sr_l, ow_sl_n, ow_sl_e, ow_sr_n, ow_sr_e]) (by simp (disch := omega) only [ow_si_ne, ow_si_n2, ow_si_e, ow_sl_i, ow_sr_i, ow_si_l, ow_si_r, ow_sl_r, ow_sr_l, ow_sl_n, ow_sl_e, ow_sr_n, ow_sr_e])), (fnd_c h.2.2.2.2.2.1 (by simp (disch := omega) only [ow_si_ne, ow_si_n2, ow_si_e, ow_sl_i, ow_sr_i, ow_si_l, ow_si_r, ow_sl_r, ow_sr_l, ow_sl_n, ow_sl_e, ow_sr_n, ow_sr_e]) (by simp (disch := omega) only [ow_si_ne, ow_si_n2, ow_si_e, ow_sl_i, ow_sr_i, ow_si_l, ow_si_r, ow_sl_r, ow_sr_l, ow_sl_n, ow_sl_e, ow_sr_n, ow_sr_e]) (by simp (disch := omega) only [ow_si_ne, ow_si_n2, ow_si_e, ow_sl_i, ow_sr_i, ow_si_l, ow_si_r, ow_sl_r, ow_sr_l, ow_sl_n, ow_sl_e, ow_sr_n, ow_sr_e]) (by simp (disch := omega) only [ow_si_ne, ow_si_n2, ow_si_e, ow_sl_i, ow_sr_i, ow_si_l, ow_si_r, ow_sl_r, ow_sr_l, ow_sl_n, ow_sl_e, ow_sr_n, ow_sr_e])), (set_c h.2.2.2.2.2.2.1 (fun j => (by simp (disch := omega) only [ow_si_ne, ow_si_n2, ow_si_e, ow_sl_i, ow_sr_i, ow_si_l, ow_si_r, ow_sl_r, ow_sr_l, ow_sl_n, ow_sl_e, ow_sr_n, ow_sr_e])) (by simp (disch := omega) only [ow_si_ne, ow_si_n2, ow_si_e, ow_sl_i, ow_sr_i, ow_si_l, ow_si_r, ow_sl_r, ow_sr_l, ow_sl_n, ow_sl_e, ow_sr_n, ow_sr_e]) (by simp (disch := omega) only [ow_si_ne, ow_si_n2, ow_si_e, ow_sl_i, ow_sr_i, ow_si_l, ow_si_r, ow_sl_r, ow_sr_l, ow_sl_n, ow_sl_e, ow_sr_n, ow_sr_e]) (by simp (disch := omega) only [ow_si_ne, ow_si_n2, ow_si_e, ow_sl_i, ow_sr_i, ow_si_l, ow_si_r, ow_sl_r, ow_sr_l, ow_sl_n, ow_sl_e, ow_sr_n, ow_sr_e])), (tab_c h.2.2.2.2.2.2.2.1 (by simp (disch := omega) only [ow_si_ne, ow_si_n2, ow_si_e, ow_sl_i, ow_sr_i, ow_si_l, ow_si_r, ow_sl_r, ow_sr_l, ow_sl_n, ow_sl_e, ow_sr_n, ow_sr_e]) (by simp (disch := omega) only [ow_si_ne, ow_si_n2, ow_si_e, ow_sl_i, ow_sr_i, ow_si_l, ow_si_r, ow_sl_r, ow_sr_l, ow_sl_n, ow_sl_e, ow_sr_n, ow_sr_e])), (cel_c h.2.2.2.2.2.2.2.2.1 (by simp (disch := omega) only [ow_si_ne, ow_si_n2, ow_si_e, ow_sl_i, ow_sr_i, ow_si_l, ow_si_r, ow_sl_r, ow_sr_l, ow_sl_n, ow_sl_e, ow_sr_n, ow_sr_e]) (by simp (disch := omega) only [ow_si_ne, ow_si_n2, ow_si_e, ow_sl_i, ow_sr_i, ow_si_l, ow_si_r, ow_sl_r, ow_sr_l, ow_sl_n, ow_sl_e, ow_sr_n, ow_sr_e]) (by simp (disch := omega) only [ow_si_ne, ow_si_n2, ow_si_e, ow_sl_i, ow_sr_i, ow_si_l, ow_si_r, ow_sl_r, ow_sr_l, ow_sl_n, ow_sl_e, ow_sr_n, ow_sr_e]) (by simp (disch := omega) only [ow_si_ne, ow_si_n2, ow_si_e, ow_sl_i, ow_sr_i, ow_si_l, ow_si_r, ow_sl_r, ow_sr_l, ow_sl_n, ow_sl_e, ow_sr_n, ow_sr_e]) (by simp (disch := omega) only [ow_si_ne, ow_si_n2, ow_si_e, ow_sl_i, ow_sr_i, ow_si_l, ow_si_r, ow_sl_r, ow_sr_l, ow_sl_n, ow_sl_e, ow_sr_n, ow_sr_e]) (by simp (disch := omega) only [ow_si_ne, ow_si_n2, ow_si_e, ow_sl_i, ow_sr_i, ow_si_l, ow_si_r, ow_sl_r, ow_sr_l, ow_sl_n, ow_sl_e, ow_sr_n, ow_sr_e]) (by simp (disch := omega) only [ow_si_ne, ow_si_n2, ow_si_e, ow_sl_i, ow_sr_i, ow_si_l, ow_si_r, ow_sl_r, ow_sr_l, ow_sl_n, ow_sl_e, ow_sr_n, ow_sr_e]) (by simp (disch := omega) only [ow_si_ne, ow_si_n2, ow_si_e, ow_sl_i, ow_sr_i, ow_si_l, ow_si_r, ow_sl_r, ow_sr_l, ow_sl_n, ow_sl_e, ow_sr_n, ow_sr_e])), (par_c h.2.2.2.2.2.2.2.2.2 (by simp (disch := omega) only [ow_si_ne, ow_si_n2, ow_si_e, ow_sl_i, ow_sr_i, ow_si_l, ow_si_r, ow_sl_r, ow_sr_l, ow_sl_n, ow_sl_e, ow_sr_n, ow_sr_e]) (by simp (disch := omega) only [ow_si_ne, ow_si_n2, ow_si_e, ow_sl_i, ow_sr_i, ow_si_l, ow_si_r, ow_sl_r, ow_sr_l, ow_sl_n, ow_sl_e, ow_sr_n, ow_sr_e]) (by simp (disch := omega) only [ow_si_ne, ow_si_n2, ow_si_e, ow_sl_i, ow_sr_i, ow_si_l, ow_si_r, ow_sl_r, ow_sr_l, ow_sl_n, ow_sl_e, ow_sr_n, ow_sr_e]) (by simp (disch := omega) only [ow_si_ne, ow_si_n2, ow_si_e, ow_sl_i, ow_sr_i, ow_si_l, ow_si_r, ow_sl_r, ow_sr_l, ow_sl_n, ow_sl_e, ow_sr_n, ow_sr_e]))⟩⟩
      · rw [e, if_neg (show ¬ (-9 : Int32) = 1 by decide)]
        dsimp only
        unfold fX4_rule
        rw [if_neg (isK_k hk), if_neg (c2 _), eb _ rfl rfl]
        dsimp only
        rw [if_neg (by decide)]
        exact ⟨rfl, h⟩
  · rw [rule_n h0 h1 h2]
    unfold fX4_rule
    rw [if_pos (isK_n h0 h1 h2)]
    exact ⟨rfl, h⟩
