
theorem join_bad {st : ow_St} {x1 x2 x3 x4 : Int32} (hb : (x2 < 0 ∨ 10 ≤ x2) ∨ (x3 < 0 ∨ 10 ≤ x3) ∨ (x4 < 0 ∨ 10 ≤ x4) ∨ x1 < 0 ∨ 3 < x1) : fX3_join st x1 x2 x3 x4 = ((-1), st) := by
  unfold fX3_join
  by_cases a2 : x2 < 0 ∨ 10 ≤ x2
  · rw [if_pos a2]
    (repeat' split) <;> rfl
  · rw [if_neg a2]
    by_cases a3 : x3 < 0 ∨ 10 ≤ x3
    · rw [if_pos a3]
      (repeat' split) <;> rfl
    · rw [if_neg a3]
      by_cases a4 : x4 < 0 ∨ 10 ≤ x4
      · rw [if_pos a4]
        (repeat' split) <;> rfl
      · rw [if_neg a4]
        by_cases c1 : x1 < 0
        · rw [if_pos c1]
        · rw [if_neg c1]
          by_cases c2 : 3 < x1
          · rw [if_pos c2]
          · exfalso
            rcases hb with q | q | q | q | q
            · exact a2 q
            · exact a3 q
            · exact a4 q
            · exact c1 q
            · exact c2 q
theorem join_ok {st : ow_St} {x1 x2 x3 x4 : Int32} (a2 : ¬ (x2 < 0 ∨ 10 ≤ x2)) (a3 : ¬ (x3 < 0 ∨ 10 ≤ x3)) (a4 : ¬ (x4 < 0 ∨ 10 ≤ x4)) (c1 : ¬ x1 < 0) (c2 : ¬ 3 < x1) : fX3_join st x1 x2 x3 x4 = (if x1 = 3 ∨ st.2.2 (x2.toNatClampNeg + 1) = st.2.2 (x3.toNatClampNeg + 1) then ((fX1_size (fX1_become st x4.toNatClampNeg (st.2.2 (x2.toNatClampNeg + 1)) (fX3_joined st x1 x2.toNatClampNeg x3.toNatClampNeg)) x4.toNatClampNeg), (fX1_become st x4.toNatClampNeg (st.2.2 (x2.toNatClampNeg + 1)) (fX3_joined st x1 x2.toNatClampNeg x3.toNatClampNeg))) else ((-3), st)) := by
  unfold fX3_join
  rw [if_neg a2, if_neg a3, if_neg a4, if_neg c1, if_neg c2]
  by_cases e : x1 = 3
  · rw [if_pos e, if_pos (Or.inl e)]
  · rw [if_neg e]
    by_cases q : st.2.2 (x2.toNatClampNeg + 1) = st.2.2 (x3.toNatClampNeg + 1)
    · rw [if_pos q, if_pos (Or.inr q)]
    · rw [if_neg q, if_neg (fun z => z.elim e q)]
theorem mk_join {st : ow_St} (h : RLs st) (x1 x2 x3 x4 : Int32) : sameM st (fX3_join st x1 x2 x3 x4).2 := by
  by_cases hb : (x2 < 0 ∨ 10 ≤ x2) ∨ (x3 < 0 ∨ 10 ≤ x3) ∨ (x4 < 0 ∨ 10 ≤ x4) ∨ x1 < 0 ∨ 3 < x1
  · rw [join_bad hb]
    exact same_rf st
  · rw [join_ok (fun q => hb (Or.inl q)) (fun q => hb (Or.inr (Or.inl q))) (fun q => hb (Or.inr (Or.inr (Or.inl q)))) (fun q => hb (Or.inr (Or.inr (Or.inr (Or.inl q))))) (fun q => hb (Or.inr (Or.inr (Or.inr (Or.inr q)))))]
    split
    · unfold fX1_become
      exact ⟨fun c h1 h2 => by simp (disch := omega) only [ow_si_ne, ow_sl_i, ow_sr_i], (by simp (disch := omega) only [ow_si_ne, ow_si_n2, ow_si_e, ow_sl_i, ow_sr_i, ow_si_l, ow_si_r, ow_sl_r, ow_sr_l, ow_sl_n, ow_sl_e, ow_sr_n, ow_sr_e]), (by simp (disch := omega) only [ow_si_ne, ow_si_n2, ow_si_e, ow_sl_i, ow_sr_i, ow_si_l, ow_si_r, ow_sl_r, ow_sr_l, ow_sl_n, ow_sl_e, ow_sr_n, ow_sr_e])⟩
    · exact same_rf st
theorem joined_ok {st : ow_St} (h : RLs st) {x1 : Int32} {i j : Nat} (hi : i < 10) (hj : j < 10) : small26 (fX3_joined st x1 i j) ∧ fX3_joined st x1 i j = (if x1 = 0 then (st.1 55 i ||| st.1 55 j) else if x1 = 1 then (st.1 55 i &&& st.1 55 j) else if x1 = 2 then (st.1 55 i &&& (st.1 55 j ^^^ (-1))) else (((1 <<< ((ow_mny ((st.1 54 i).toNatClampNeg)) &&& 31)) - 1) &&& (st.1 55 i ^^^ (-1)))) := by
  obtain ⟨k1, k2, kk3, k4⟩ := h.2.2.2.2.2.2.1 i hi
  obtain ⟨m1, m2, m3, m4⟩ := h.2.2.2.2.2.2.1 j hj
  unfold fX3_joined
  rw [kk3, m3, k2, kcl k1, mny_eq k1]
  refine ⟨?_, rfl⟩
  split
  · exact small_or k4 m4
  · split
    · exact small_and k4
    · split
      · exact small_and k4
      · refine small_and ?_
        rcases k3 k1 with e | e | e
        · rw [e]
          exact ⟨31, by decide, by decide +kernel⟩
        · rw [e]
          exact ⟨127, by decide, by decide +kernel⟩
        · rw [e]
          exact ⟨67108863, by decide, by decide +kernel⟩
theorem op4 {x : Int32} (c1 : ¬ x < 0) (c2 : ¬ 3 < x) : x = 0 ∨ x = 1 ∨ x = 2 ∨ x = 3 := by
  obtain ⟨j, hj, e⟩ := vp_in_of (le_in (n := 3) rfl (by decide) ⟨Int32.not_lt.mp c1, Int32.not_lt.mp c2⟩) (by decide)
  rcases (show j = 0 ∨ j = 1 ∨ j = 2 ∨ j = 3 by omega) with rfl | rfl | rfl | rfl
  · exact Or.inl e
  · exact Or.inr (Or.inl e)
  · exact Or.inr (Or.inr (Or.inl e))
  · exact Or.inr (Or.inr (Or.inr e))
theorem bec_r {st : ow_St} {i k : Nat} {v : Int32} : (fX1_become st i k v).1 54 = st.1 54 ∧ (fX1_become st i k v).1 55 = st.1 55 ∧ (fX1_become st i k v).1 3 i = v := by
  unfold fX1_become
  refine ⟨?_, ?_, ?_⟩ <;> simp (disch := omega) only [ow_si_ne, ow_sr_i, ow_si_e]
theorem joinM_3 {st : ow_St} {x2 x3 x4 : Int32} (a2 : ¬ fX4_isSet st x2 = 0) (a3 : ¬ fX4_isSet st x3 = 0) (a4 : ¬ fX4_isSet st x4 = 0) : fX4_join st 3 x2 x3 x4 = ((fX4_size (ow_si (ow_si st 54 x4.toNatClampNeg (st.1 54 x2.toNatClampNeg)) 55 x4.toNatClampNeg (((1 <<< ((ow_mny ((st.1 54 x2.toNatClampNeg).toNatClampNeg)) &&& 31)) - 1) &&& ((st.1 55 x2.toNatClampNeg) ^^^ (-1)))) (((1 <<< ((ow_mny ((st.1 54 x2.toNatClampNeg).toNatClampNeg)) &&& 31)) - 1) &&& ((st.1 55 x2.toNatClampNeg) ^^^ (-1)))), (ow_si (ow_si st 54 x4.toNatClampNeg (st.1 54 x2.toNatClampNeg)) 55 x4.toNatClampNeg (((1 <<< ((ow_mny ((st.1 54 x2.toNatClampNeg).toNatClampNeg)) &&& 31)) - 1) &&& ((st.1 55 x2.toNatClampNeg) ^^^ (-1))))) := by
  unfold fX4_join
  rw [if_neg (by unfold fX4_isIn; decide), if_neg a2, if_neg a3, if_neg a4, if_pos (by decide), if_neg (by decide), if_neg (by decide), if_neg (by decide)]
theorem joinM {st : ow_St} {x1 x2 x3 x4 : Int32} (o : x1 = 0 ∨ x1 = 1 ∨ x1 = 2) (a2 : ¬ fX4_isSet st x2 = 0) (a3 : ¬ fX4_isSet st x3 = 0) (a4 : ¬ fX4_isSet st x4 = 0) (e : st.1 54 x2.toNatClampNeg = st.1 54 x3.toNatClampNeg) {V : Int32} (hV : V = (if x1 = 0 then (st.1 55 x2.toNatClampNeg ||| st.1 55 x3.toNatClampNeg) else if x1 = 1 then (st.1 55 x2.toNatClampNeg &&& st.1 55 x3.toNatClampNeg) else (st.1 55 x2.toNatClampNeg &&& (st.1 55 x3.toNatClampNeg ^^^ (-1))))) : fX4_join st x1 x2 x3 x4 = ((fX4_size (ow_si (ow_si st 54 x4.toNatClampNeg (st.1 54 x2.toNatClampNeg)) 55 x4.toNatClampNeg V) V), (ow_si (ow_si st 54 x4.toNatClampNeg (st.1 54 x2.toNatClampNeg)) 55 x4.toNatClampNeg V)) := by
  subst hV
  unfold fX4_join
  rcases o with rfl | rfl | rfl
  · rw [if_neg (by unfold fX4_isIn; decide), if_neg a2, if_neg a3, if_neg a4, if_neg (by decide), if_pos e, if_pos rfl, if_pos rfl]
  · rw [if_neg (by unfold fX4_isIn; decide), if_neg a2, if_neg a3, if_neg a4, if_neg (by decide), if_pos e, if_neg (by decide), if_pos rfl, if_neg (by decide), if_pos rfl]
  · rw [if_neg (by unfold fX4_isIn; decide), if_neg a2, if_neg a3, if_neg a4, if_neg (by decide), if_pos e, if_neg (by decide), if_neg (by decide), if_pos rfl, if_neg (by decide), if_neg (by decide)]
theorem joinM_bad {st : ow_St} {x1 x2 x3 x4 : Int32} (hb : (x2 < 0 ∨ 10 ≤ x2) ∨ (x3 < 0 ∨ 10 ≤ x3) ∨ (x4 < 0 ∨ 10 ≤ x4) ∨ x1 < 0 ∨ 3 < x1) : fX4_join st x1 x2 x3 x4 = ((-1), st) := by
  unfold fX4_join
  by_cases c : fX4_isIn st x1 0 3 = 0
  · rw [if_pos c]
  · rw [if_neg c]
    by_cases a2 : fX4_isSet st x2 = 0
    · rw [if_pos a2]
    · rw [if_neg a2]
      by_cases a3 : fX4_isSet st x3 = 0
      · rw [if_pos a3]
      · rw [if_neg a3]
        by_cases a4 : fX4_isSet st x4 = 0
        · rw [if_pos a4]
        · exfalso
          rcases hb with q | q | q | q | q
          · exact a2 (isS_y.mpr q)
          · exact a3 (isS_y.mpr q)
          · exact a4 (isS_y.mpr q)
          · exact absurd q (Int32.not_lt.mpr (isIn_t c).1)
          · exact absurd q (Int32.not_lt.mpr (isIn_t c).2)
theorem eq_join {st : ow_St} (h : RLs st) (x1 x2 x3 x4 : Int32) : (fX3_join st x1 x2 x3 x4).1 = (fX4_join (fX3_join st x1 x2 x3 x4).2 x1 x2 x3 x4).1 ∧ RLs (fX4_join (fX3_join st x1 x2 x3 x4).2 x1 x2 x3 x4).2 := by
  by_cases hb : (x2 < 0 ∨ 10 ≤ x2) ∨ (x3 < 0 ∨ 10 ≤ x3) ∨ (x4 < 0 ∨ 10 ≤ x4) ∨ x1 < 0 ∨ 3 < x1
  · rw [join_bad hb]
    dsimp only
    rw [joinM_bad hb]
    exact ⟨rfl, h⟩
  · have a2 : ¬ (x2 < 0 ∨ 10 ≤ x2) := fun q => hb (Or.inl q)
    have a3 : ¬ (x3 < 0 ∨ 10 ≤ x3) := fun q => hb (Or.inr (Or.inl q))
    have a4 : ¬ (x4 < 0 ∨ 10 ≤ x4) := fun q => hb (Or.inr (Or.inr (Or.inl q)))
    have c1 : ¬ x1 < 0 := fun q => hb (Or.inr (Or.inr (Or.inr (Or.inl q))))
    have c2 : ¬ 3 < x1 := fun q => hb (Or.inr (Or.inr (Or.inr (Or.inr q))))
    obtain ⟨k1, k2, k3, k4⟩ := h.2.2.2.2.2.2.1 _ (setN_b a2)
    obtain ⟨m1, m2, m3, m4⟩ := h.2.2.2.2.2.2.1 _ (setN_b a3)
    have b2 : ∀ s : ow_St, ¬ fX4_isSet s x2 = 0 := fun s q => a2 (isS_y.mp q)
    have b3 : ∀ s : ow_St, ¬ fX4_isSet s x3 = 0 := fun s q => a3 (isS_y.mp q)
    have b4 : ∀ s : ow_St, ¬ fX4_isSet s x4 = 0 := fun s q => a4 (isS_y.mp q)
    obtain ⟨hs, hV⟩ := joined_ok h (x1 := x1) (setN_b a2) (setN_b a3)
    rw [join_ok a2 a3 a4 c1 c2]
    by_cases q : x1 = 3 ∨ st.2.2 (x2.toNatClampNeg + 1) = st.2.2 (x3.toNatClampNeg + 1)
    · rw [if_pos q]
      dsimp only
      obtain ⟨r54, r55, r3⟩ := bec_r (st := st) (i := x4.toNatClampNeg) (k := st.2.2 (x2.toNatClampNeg + 1)) (v := fX3_joined st x1 x2.toNatClampNeg x3.toNatClampNeg)
      have fin : ∀ s' : ow_St, fX1_size (fX1_become st x4.toNatClampNeg (st.2.2 (x2.toNatClampNeg + 1)) (fX3_joined st x1 x2.toNatClampNeg x3.toNatClampNeg)) x4.toNatClampNeg = fX4_size s' (fX3_joined st x1 x2.toNatClampNeg x3.toNatClampNeg) := fun s' => by
        unfold fX1_size
        rw [r3]
        exact sz_eq hs
      have hR : RLs (ow_si (ow_si (fX1_become st x4.toNatClampNeg (st.2.2 (x2.toNatClampNeg + 1)) (fX3_joined st x1 x2.toNatClampNeg x3.toNatClampNeg)) 54 x4.toNatClampNeg ((fX1_become st x4.toNatClampNeg (st.2.2 (x2.toNatClampNeg + 1)) (fX3_joined st x1 x2.toNatClampNeg x3.toNatClampNeg)).1 54 x2.toNatClampNeg)) 55 x4.toNatClampNeg (fX3_joined st x1 x2.toNatClampNeg x3.toNatClampNeg)) := by
        rw [r54, k2]
        exact set_put h k1 hs
      by_cases o : x1 = 3
      · have hV3 : fX3_joined st x1 x2.toNatClampNeg x3.toNatClampNeg = (((1 <<< ((ow_mny (((fX1_become st x4.toNatClampNeg (st.2.2 (x2.toNatClampNeg + 1)) (fX3_joined st x1 x2.toNatClampNeg x3.toNatClampNeg)).1 54 x2.toNatClampNeg).toNatClampNeg)) &&& 31)) - 1) &&& (((fX1_become st x4.toNatClampNeg (st.2.2 (x2.toNatClampNeg + 1)) (fX3_joined st x1 x2.toNatClampNeg x3.toNatClampNeg)).1 55 x2.toNatClampNeg) ^^^ (-1))) := by
          rw [r54, r55]
          refine hV.trans ?_
          rw [if_neg (by rw [o]; decide), if_neg (by rw [o]; decide), if_neg (by rw [o]; decide)]
        subst o
        rw [joinM_3 (b2 _) (b3 _) (b4 _), ← hV3]
        refine ⟨?_, hR⟩
        dsimp only
        exact fin _
      · have e : st.2.2 (x2.toNatClampNeg + 1) = st.2.2 (x3.toNatClampNeg + 1) := q.resolve_left o
        have o2 : x1 = 0 ∨ x1 = 1 ∨ x1 = 2 := by
          rcases op4 c1 c2 with z | z | z | z
          · exact Or.inl z
          · exact Or.inr (Or.inl z)
          · exact Or.inr (Or.inr z)
          · exact absurd z o
        rw [joinM (V := fX3_joined st x1 x2.toNatClampNeg x3.toNatClampNeg) o2 (b2 _) (b3 _) (b4 _) (by rw [r54, k2, m2, e]) (by
          rw [r55]
          refine hV.trans ?_
          rcases o2 with z | z | z
          · rw [if_pos z, if_pos z]
          · rw [if_neg (by rw [z]; decide), if_pos z, if_neg (by rw [z]; decide), if_pos z]
          · rw [if_neg (by rw [z]; decide), if_neg (by rw [z]; decide), if_pos z, if_neg (by rw [z]; decide), if_neg (by rw [z]; decide)])]
        refine ⟨?_, hR⟩
        dsimp only
        exact fin _
    · rw [if_neg q]
      dsimp only
      have o : ¬ x1 = 3 := fun z => q (Or.inl z)
      have e : ¬ st.2.2 (x2.toNatClampNeg + 1) = st.2.2 (x3.toNatClampNeg + 1) := fun z => q (Or.inr z)
      have hj : fX4_join st x1 x2 x3 x4 = ((-3), st) := by
        unfold fX4_join
        rw [if_neg, if_neg (b2 _), if_neg (b3 _), if_neg (b4 _), if_neg, if_neg]
        · rw [k2, m2, nI_eq (by omega) (by omega)]
          exact e
        · intro z
          rcases op4 c1 c2 with y | y | y | y
          · rw [y] at z; exact absurd z (by decide)
          · rw [y] at z; exact absurd z (by decide)
          · rw [y] at z; exact absurd z (by decide)
          · exact o y
        · unfold fX4_isIn
          rw [if_neg c1, if_neg c2]
          decide
      rw [hj]
      exact ⟨rfl, h⟩


theorem swap_k {st : ow_St} {x2 x3 : Int32} {k : Nat} (hk : k < 3) : fX3_swap st (nI k) x2 x3 = (if (fX0_has st k x2) = 0 then ((-1), st) else (if (fX0_has st k x3) = 0 then ((-1), st) else (1, fX0_exchange st k x2 x3))) := by
  unfold fX3_swap
  rcases k3 hk with rfl | rfl | rfl
  · rw [if_pos (show nI 0 = 0 from rfl)]
  · rw [if_neg (show ¬ nI 1 = 0 by decide), if_pos (show nI 1 = 1 from rfl)]
  · rw [if_neg (show ¬ nI 2 = 0 by decide), if_neg (show ¬ nI 2 = 1 by decide), if_pos (show nI 2 = 2 from rfl)]
theorem swap_n {st : ow_St} {x1 x2 x3 : Int32} (h0 : ¬ x1 = 0) (h1 : ¬ x1 = 1) (h2 : ¬ x1 = 2) : fX3_swap st x1 x2 x3 = ((-1), st) := by
  unfold fX3_swap
  rw [if_neg h0, if_neg h1, if_neg h2]
theorem gv_ok {st : ow_St} {k c a : Nat} (hc : c < mn k) (ha : a < mn k) : fX0_giveCode st k (nI c) (nI a) = ow_si (ow_si st (100 + 4 * k) a (nI c)) (101 + 4 * k) c (nI a) := by
  have hm := mn_le k
  unfold fX0_giveCode
  rw [if_neg (has_of hc), if_neg (has_of ha)]
  dsimp only
  rw [nI_clamp (show a < 2 ^ 31 by omega), nI_clamp (show c < 2 ^ 31 by omega)]
theorem si_com {st : ow_St} {c i c' i' : Nat} {v v' : Int32} (h : ¬ (c = c' ∧ i = i')) : ow_si (ow_si st c i v) c' i' v' = ow_si (ow_si st c' i' v') c i v := by
  refine Prod.ext ?_ rfl
  funext a b
  by_cases e1 : a = c ∧ b = i
  · obtain ⟨rfl, rfl⟩ := e1
    rw [ow_si_n2 h, ow_si_e, ow_si_e]
  · rw [ow_si_n2 (st := ow_si st c' i' v') e1]
    by_cases e2 : a = c' ∧ b = i'
    · obtain ⟨rfl, rfl⟩ := e2
      rw [ow_si_e, ow_si_e]
    · rw [ow_si_n2 e2, ow_si_n2 e1, ow_si_n2 e2]
/-- the exchange, with the constants' names -/
theorem exch {st : ow_St} (h : RLs st) {k a b xa yb : Nat} (hk : k < 3) (ha : a < mn k) (hb : b < mn k) (ea : st.1 (100 + 4 * k) a = nI xa) (eb : st.1 (100 + 4 * k) b = nI yb) (hx : xa < mn k) (hy : yb < mn k) : fX0_exchange st k (nI a) (nI b) = ow_si (ow_si (ow_si (ow_si st (100 + 4 * k) a (nI yb)) (100 + 4 * k) b (nI xa)) (101 + 4 * k) yb (nI a)) (101 + 4 * k) xa (nI b) := by
  have hm := mn_le k
  have ca : fX0_constantOf st k (nI a) = nI xa := by
    unfold fX0_constantOf
    rw [if_neg (has_of ha), nI_clamp (by omega), ea]
  have cb : fX0_constantOf st k (nI b) = nI yb := by
    unfold fX0_constantOf
    rw [if_neg (has_of hb), nI_clamp (by omega), eb]
  unfold fX0_exchange
  dsimp only
  rw [ca, cb, gv_ok hx hb, gv_ok hy ha]
  by_cases q : a = b
  · subst q
    have e : xa = yb := (nI_eq (by omega) (by omega)).mp (by rw [← ea, eb])
    subst e
    rw [si_com (c := 101 + 4 * k) (c' := 100 + 4 * k) (by omega)]
  · have e : ¬ yb = xa := fun z => q (h.2.2.1 k hk a ha b hb (by rw [← (h.1 k hk a ha).1, ← (h.1 k hk b hb).1, ea, eb, z]))
    rw [si_com (c := 101 + 4 * k) (c' := 100 + 4 * k) (by omega), si_com (c := 100 + 4 * k) (i := b) (c' := 100 + 4 * k) (i' := a) (by omega), si_com (c := 101 + 4 * k) (i := xa) (c' := 101 + 4 * k) (i' := yb) (by omega)]
theorem mk_swap {st : ow_St} (h : RLs st) (x1 x2 x3 : Int32) : sameM st (fX3_swap st x1 x2 x3).2 := by
  rcases kcase x1 with ⟨k, hk, rfl⟩ | ⟨h0, h1, h2⟩
  · rw [swap_k hk]
    split
    · exact same_rf st
    · split
      · exact same_rf st
      · rename_i c1 c2
        obtain ⟨a, xa, ha, hx, rfl, ea, -, -⟩ := con_at h.1 hk c1
        obtain ⟨b, yb, hb, hy, rfl, eb, -, -⟩ := con_at h.1 hk c2
        dsimp only
        rw [exch h hk ha hb ea eb hx hy]
        exact ⟨fun c h1 h2 => by simp (disch := omega) only [ow_si_ne, ow_sl_i, ow_sr_i], (by simp (disch := omega) only [ow_si_ne, ow_si_n2, ow_si_e, ow_sl_i, ow_sr_i, ow_si_l, ow_si_r, ow_sl_r, ow_sr_l, ow_sl_n, ow_sl_e, ow_sr_n, ow_sr_e]), (by simp (disch := omega) only [ow_si_ne, ow_si_n2, ow_si_e, ow_sl_i, ow_sr_i, ow_si_l, ow_si_r, ow_sl_r, ow_sr_l, ow_sl_n, ow_sl_e, ow_sr_n, ow_sr_e])⟩
  · rw [swap_n h0 h1 h2]
    exact same_rf st
theorem swap_RL {st : ow_St} (h : RLs st) {k a b xa yb : Nat} (hk : k < 3) (ha : a < mn k) (hb : b < mn k) (ea : st.1 51 (26 * k + a) = nI xa) (eb : st.1 51 (26 * k + b) = nI yb) (hx : xa < mn k) (hy : yb < mn k) : RLs (ow_si (ow_si (ow_si (ow_si (ow_si (ow_si (ow_si (ow_si st (100 + 4 * k) a (nI yb)) (100 + 4 * k) b (nI xa)) (101 + 4 * k) yb (nI a)) (101 + 4 * k) xa (nI b)) 50 (26 * k + xa) (nI b)) 50 (26 * k + yb) (nI a)) 51 (26 * k + a) (nI yb)) 51 (26 * k + b) (nI xa)) := by
  have hm := mn_le k
  refine ⟨?_, ?_, ?_, (sta_c h.2.2.2.1 (by simp (disch := omega) only [ow_si_ne, ow_si_n2, ow_si_e, ow_sl_i, ow_sr_i, ow_si_l, ow_si_r, ow_sl_r, ow_sr_l, ow_sl_n, ow_sl_e, ow_sr_n, ow_sr_e]) (by simp (disch := omega) only [ow_si_ne, ow_si_n2, ow_si_e, ow_sl_i, ow_sr_i, ow_si_l, ow_si_r, ow_sl_r, ow_sr_l, ow_sl_n, ow_sl_e, ow_sr_n, ow_sr_e]) (by simp (disch := omega) only [ow_si_ne, ow_si_n2, ow_si_e, ow_sl_i, ow_sr_i, ow_si_l, ow_si_r, ow_sl_r, ow_sr_l, ow_sl_n, ow_sl_e, ow_sr_n, ow_sr_e]) (by simp (disch := omega) only [ow_si_ne, ow_si_n2, ow_si_e, ow_sl_i, ow_sr_i, ow_si_l, ow_si_r, ow_sl_r, ow_sr_l, ow_sl_n, ow_sl_e, ow_sr_n, ow_sr_e])), (num_c h.2.2.2.2.1 (by simp (disch := omega) only [ow_si_ne, ow_si_n2, ow_si_e, ow_sl_i, ow_sr_i, ow_si_l, ow_si_r, ow_sl_r, ow_sr_l, ow_sl_n, ow_sl_e, ow_sr_n, ow_sr_e]) (by simp (disch := omega) only [ow_si_ne, ow_si_n2, ow_si_e, ow_sl_i, ow_sr_i, ow_si_l, ow_si_r, ow_sl_r, ow_sr_l, ow_sl_n, ow_sl_e, ow_sr_n, ow_sr_e]) (by simp (disch := omega) only [ow_si_ne, ow_si_n2, ow_si_e, ow_sl_i, ow_sr_i, ow_si_l, ow_si_r, ow_sl_r, ow_sr_l, ow_sl_n, ow_sl_e, ow_sr_n, ow_sr_e]) (by simp (disch := omega) only [ow_si_ne, ow_si_n2, ow_si_e, ow_sl_i, ow_sr_i, ow_si_l, ow_si_r, ow_sl_r, ow_sr_l, ow_sl_n, ow_sl_e, ow_sr_n, ow_sr_e]) (by simp (disch := omega) only [ow_si_ne, ow_si_n2, ow_si_e, ow_sl_i, ow_sr_i, ow_si_l, ow_si_r, ow_sl_r, ow_sr_l, ow_sl_n, ow_sl_e, ow_sr_n, ow_sr_e]) (by simp (disch := omega) only [ow_si_ne, ow_si_n2, ow_si_e, ow_sl_i, ow_sr_i, ow_si_l, ow_si_r, ow_sl_r, ow_sr_l, ow_sl_n, ow_sl_e, ow_sr_n, ow_sr_e])), (fnd_c h.2.2.2.2.2.1 (by simp (disch := omega) only [ow_si_ne, ow_si_n2, ow_si_e, ow_sl_i, ow_sr_i, ow_si_l, ow_si_r, ow_sl_r, ow_sr_l, ow_sl_n, ow_sl_e, ow_sr_n, ow_sr_e]) (by simp (disch := omega) only [ow_si_ne, ow_si_n2, ow_si_e, ow_sl_i, ow_sr_i, ow_si_l, ow_si_r, ow_sl_r, ow_sr_l, ow_sl_n, ow_sl_e, ow_sr_n, ow_sr_e]) (by simp (disch := omega) only [ow_si_ne, ow_si_n2, ow_si_e, ow_sl_i, ow_sr_i, ow_si_l, ow_si_r, ow_sl_r, ow_sr_l, ow_sl_n, ow_sl_e, ow_sr_n, ow_sr_e]) (by simp (disch := omega) only [ow_si_ne, ow_si_n2, ow_si_e, ow_sl_i, ow_sr_i, ow_si_l, ow_si_r, ow_sl_r, ow_sr_l, ow_sl_n, ow_sl_e, ow_sr_n, ow_sr_e])), (set_c h.2.2.2.2.2.2.1 (fun j => (by simp (disch := omega) only [ow_si_ne, ow_si_n2, ow_si_e, ow_sl_i, ow_sr_i, ow_si_l, ow_si_r, ow_sl_r, ow_sr_l, ow_sl_n, ow_sl_e, ow_sr_n, ow_sr_e])) (by simp (disch := omega) only [ow_si_ne, ow_si_n2, ow_si_e, ow_sl_i, ow_sr_i, ow_si_l, ow_si_r, ow_sl_r, ow_sr_l, ow_sl_n, ow_sl_e, ow_sr_n, ow_sr_e]) (by simp (disch := omega) only [ow_si_ne, ow_si_n2, ow_si_e, ow_sl_i, ow_sr_i, ow_si_l, ow_si_r, ow_sl_r, ow_sr_l, ow_sl_n, ow_sl_e, ow_sr_n, ow_sr_e]) (by simp (disch := omega) only [ow_si_ne, ow_si_n2, ow_si_e, ow_sl_i, ow_sr_i, ow_si_l, ow_si_r, ow_sl_r, ow_sr_l, ow_sl_n, ow_sl_e, ow_sr_n, ow_sr_e])), (tab_c h.2.2.2.2.2.2.2.1 (by simp (disch := omega) only [ow_si_ne, ow_si_n2, ow_si_e, ow_sl_i, ow_sr_i, ow_si_l, ow_si_r, ow_sl_r, ow_sr_l, ow_sl_n, ow_sl_e, ow_sr_n, ow_sr_e]) (by simp (disch := omega) only [ow_si_ne, ow_si_n2, ow_si_e, ow_sl_i, ow_sr_i, ow_si_l, ow_si_r, ow_sl_r, ow_sr_l, ow_sl_n, ow_sl_e, ow_sr_n, ow_sr_e])), (cel_c h.2.2.2.2.2.2.2.2.1 (by simp (disch := omega) only [ow_si_ne, ow_si_n2, ow_si_e, ow_sl_i, ow_sr_i, ow_si_l, ow_si_r, ow_sl_r, ow_sr_l, ow_sl_n, ow_sl_e, ow_sr_n, ow_sr_e]) (by simp (disch := omega) only [ow_si_ne, ow_si_n2, ow_si_e, ow_sl_i, ow_sr_i, ow_si_l, ow_si_r, ow_sl_r, ow_sr_l, ow_sl_n, ow_sl_e, ow_sr_n, ow_sr_e]) (by simp (disch := omega) only [ow_si_ne, ow_si_n2, ow_si_e, ow_sl_i, ow_sr_i, ow_si_l, ow_si_r, ow_sl_r, ow_sr_l, ow_sl_n, ow_sl_e, ow_sr_n, ow_sr_e]) (by simp (disch := omega) only [ow_si_ne, ow_si_n2, ow_si_e, ow_sl_i, ow_sr_i, ow_si_l, ow_si_r, ow_sl_r, ow_sr_l, ow_sl_n, ow_sl_e, ow_sr_n, ow_sr_e]) (by simp (disch := omega) only [ow_si_ne, ow_si_n2, ow_si_e, ow_sl_i, ow_sr_i, ow_si_l, ow_si_r, ow_sl_r, ow_sr_l, ow_sl_n, ow_sl_e, ow_sr_n, ow_sr_e]) (by simp (disch := omega) only [ow_si_ne, ow_si_n2, ow_si_e, ow_sl_i, ow_sr_i, ow_si_l, ow_si_r, ow_sl_r, ow_sr_l, ow_sl_n, ow_sl_e, ow_sr_n, ow_sr_e]) (by simp (disch := omega) only [ow_si_ne, ow_si_n2, ow_si_e, ow_sl_i, ow_sr_i, ow_si_l, ow_si_r, ow_sl_r, ow_sr_l, ow_sl_n, ow_sl_e, ow_sr_n, ow_sr_e]) (by simp (disch := omega) only [ow_si_ne, ow_si_n2, ow_si_e, ow_sl_i, ow_sr_i, ow_si_l, ow_si_r, ow_sl_r, ow_sr_l, ow_sl_n, ow_sl_e, ow_sr_n, ow_sr_e])), (par_c h.2.2.2.2.2.2.2.2.2 (by simp (disch := omega) only [ow_si_ne, ow_si_n2, ow_si_e, ow_sl_i, ow_sr_i, ow_si_l, ow_si_r, ow_sl_r, ow_sr_l, ow_sl_n, ow_sl_e, ow_sr_n, ow_sr_e]) (by simp (disch := omega) only [ow_si_ne, ow_si_n2, ow_si_e, ow_sl_i, ow_sr_i, ow_si_l, ow_si_r, ow_sl_r, ow_sr_l, ow_sl_n, ow_sl_e, ow_sr_n, ow_sr_e]) (by simp (disch := omega) only [ow_si_ne, ow_si_n2, ow_si_e, ow_sl_i, ow_sr_i, ow_si_l, ow_si_r, ow_sl_r, ow_sr_l, ow_sl_n, ow_sl_e, ow_sr_n, ow_sr_e]) (by simp (disch := omega) only [ow_si_ne, ow_si_n2, ow_si_e, ow_sl_i, ow_sr_i, ow_si_l, ow_si_r, ow_sl_r, ow_sr_l, ow_sl_n, ow_sl_e, ow_sr_n, ow_sr_e]))⟩
  · intro k' hk' j hj
    have hm' := mn_le k'
    by_cases e : k' = k
    · subst e
      by_cases e1 : j = b
      · subst e1
        simp (disch := omega) only [ow_si_ne, ow_si_e]
        exact ⟨trivial, vp_in_nI hx (ow_mn _)⟩
      · by_cases e2 : j = a
        · subst e2
          simp (disch := omega) only [ow_si_ne, ow_si_n2, ow_si_e]
          exact ⟨trivial, vp_in_nI hy (ow_mn _)⟩
        · simp (disch := omega) only [ow_si_ne, ow_si_n2]
          exact h.1 k' hk' j hj
    · simp (disch := omega) only [ow_si_ne, ow_si_n2]
      exact h.1 k' hk' j hj
  · intro k' hk' j hj
    have hm' := mn_le k'
    by_cases e : k' = k
    · subst e
      by_cases e1 : j = xa
      · subst e1
        by_cases e2 : j = yb
        · subst e2
          have hab : a = b := h.2.2.1 k' hk a ha b hb (by rw [ea, eb])
          subst hab
          simp (disch := omega) only [ow_si_ne, ow_si_e]
        · simp (disch := omega) only [ow_si_ne, ow_si_n2, ow_si_e]
      · by_cases e2 : j = yb
        · subst e2
          simp (disch := omega) only [ow_si_ne, ow_si_n2, ow_si_e]
        · simp (disch := omega) only [ow_si_ne, ow_si_n2]
          exact h.2.1 k' hk' j hj
    · simp (disch := omega) only [ow_si_ne, ow_si_n2]
      exact h.2.1 k' hk' j hj
  · intro k' hk' i hi j hj
    have hm' := mn_le k'
    by_cases e : k' = k
    · subst e
      have key : ∀ j, j < mn k' → (ow_si (ow_si (ow_si (ow_si (ow_si (ow_si (ow_si (ow_si st (100 + 4 * k') a (nI yb)) (100 + 4 * k') b (nI xa)) (101 + 4 * k') yb (nI a)) (101 + 4 * k') xa (nI b)) 50 (26 * k' + xa) (nI b)) 50 (26 * k' + yb) (nI a)) 51 (26 * k' + a) (nI yb)) 51 (26 * k' + b) (nI xa)).1 51 (26 * k' + j) = st.1 51 (26 * k' + (if j = b then a else if j = a then b else j)) := by
        intro j hj
        by_cases e1 : j = b
        · subst e1
          rw [ow_si_e, if_pos rfl, ea]
        · by_cases e2 : j = a
          · subst e2
            rw [ow_si_n2 (by omega), ow_si_e, if_neg e1, if_pos rfl, eb]
          · simp (disch := omega) only [ow_si_ne, ow_si_n2]
            rw [if_neg e1, if_neg e2]
      intro q
      rw [key i hi, key j hj] at q
      have q2 := h.2.2.1 k' hk _ (by split; exact ha; split; exact hb; exact hi) _ (by split; exact ha; split; exact hb; exact hj) q
      split at q2 <;> (try split at q2) <;> (try split at q2) <;> (try split at q2) <;> omega
    · simp (disch := omega) only [ow_si_ne, ow_si_n2]
      exact h.2.2.1 k' hk' i hi j hj
theorem con_row {st st' : ow_St} {x y : Int32} (e : st'.1 51 = st.1 51) : fX4_constant st' x y = fX4_constant st x y := by
  unfold fX4_constant
  rw [e]
  rfl
theorem eq_swap {st : ow_St} (h : RLs st) (x1 x2 x3 : Int32) : (fX3_swap st x1 x2 x3).1 = (fX4_swap (fX3_swap st x1 x2 x3).2 x1 x2 x3).1 ∧ RLs (fX4_swap (fX3_swap st x1 x2 x3).2 x1 x2 x3).2 := by
  rcases kcase x1 with ⟨k, hk, rfl⟩ | ⟨h0, h1, h2⟩
  · rw [swap_k hk]
    by_cases c1 : fX0_has st k x2 = 0
    · rw [if_pos c1]
      unfold fX4_swap
      rw [if_neg (isK_k hk), if_pos (by rw [← has_code (st := st) hk]; exact c1)]
      exact ⟨rfl, h⟩
    · rw [if_neg c1]
      by_cases c2 : fX0_has st k x3 = 0
      · rw [if_pos c2]
        unfold fX4_swap
        rw [if_neg (isK_k hk), if_neg (by rw [← has_code (st := st) hk]; exact c1), if_pos (by rw [← has_code (st := st) hk]; exact c2)]
        exact ⟨rfl, h⟩
      · rw [if_neg c2]
        obtain ⟨a, xa, ha, hx, rfl, ea, ea2, ea3⟩ := con_at h.1 hk c1
        obtain ⟨b, yb, hb, hy, rfl, eb, eb2, eb3⟩ := con_at h.1 hk c2
        have hm := mn_le k
        dsimp only
        rw [exch h hk ha hb ea eb hx hy]
        have r : (ow_si (ow_si (ow_si (ow_si st (100 + 4 * k) a (nI yb)) (100 + 4 * k) b (nI xa)) (101 + 4 * k) yb (nI a)) (101 + 4 * k) xa (nI b)).1 51 = st.1 51 := by simp (disch := omega) only [ow_si_ne]
        have hsw := swap_RL h hk ha hb ea2 eb2 hx hy
        generalize (ow_si (ow_si (ow_si (ow_si st (100 + 4 * k) a (nI yb)) (100 + 4 * k) b (nI xa)) (101 + 4 * k) yb (nI a)) (101 + 4 * k) xa (nI b)) = z at r hsw ⊢
        unfold fX4_swap
        rw [if_neg (isK_k hk), if_neg (by rw [← has_code (st := st) hk]; exact c1), if_neg (by rw [← has_code (st := st) hk]; exact c2)]
        dsimp only
        rw [con_row r, con_row r, ← con_eq h.1 hk, ← con_eq h.1 hk, ea3, eb3, ix26 hk (by omega), ix26 hk (by omega), ix26 hk (by omega), ix26 hk (by omega)]
        exact ⟨rfl, hsw⟩
  · rw [swap_n h0 h1 h2]
    unfold fX4_swap
    rw [if_pos (isK_n h0 h1 h2)]
    exact ⟨rfl, h⟩
