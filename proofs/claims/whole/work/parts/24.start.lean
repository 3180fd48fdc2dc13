/-! the start: what the two constructors leave is the first state of the relation -/
def st0 : ow_St := (fun c => if c = 100 ∨ c = 101 then kf 5 else if c = 104 ∨ c = 105 then kf 7 else if c = 108 ∨ c = 109 then kf 26 else if c = 50 ∨ c = 51 then mf 78 else if c = 61 then (fun i => if i = 2 then (-4) else 0) else fun _ => 0, fun _ => 0, fun _ => 0)
theorem kf_at {n j : Nat} (h : j < n) : kf n j = nI j := if_pos h
theorem mf_at {k j : Nat} (hk : k < 3) (hj : j < 26) : mf 78 (26 * k + j) = nI j := by
  unfold mf
  rw [if_pos (by omega), show (26 * k + j) % 26 = j by omega]
theorem RL_0 : RLs st0 := by
  have e51 : st0.1 51 = mf 78 := rfl
  have e50 : st0.1 50 = mf 78 := rfl
  have hc : ∀ k, k < 3 → st0.1 (100 + 4 * k) = kf (mn k) ∧ st0.1 (101 + 4 * k) = kf (mn k) := by
    intro k hk
    rcases k3 hk with rfl | rfl | rfl <;> exact ⟨rfl, rfl⟩
  refine ⟨fun k hk j hj => ?_, fun k hk j hj => ?_, fun k hk a ha b hb e => ?_, fun k hk => ⟨rfl, rfl, Or.inl rfl⟩, ⟨rfl, rfl, rfl⟩, ⟨rfl, ⟨0, by decide, rfl⟩, fun j hj => rfl⟩, fun j hj => ⟨(by show (0 : Nat) < 3; decide), rfl, rfl, ⟨0, by decide, rfl⟩⟩, fun t ht => ⟨rfl, 0, by decide, rfl⟩, fun r hr => ⟨⟨rfl, rfl, rfl⟩, ⟨rfl, rfl, rfl, rfl⟩, Or.inr (by show vp_in 0 5; unfold vp_in; decide), Or.inr (by show vp_in 0 26; unfold vp_in; decide), Or.inr (by show vp_in 0 7; unfold vp_in; decide)⟩, Or.inl ⟨rfl, rfl⟩⟩
  · have := mn_le k
    rw [(hc k hk).1, e51, kf_at hj, mf_at hk (by omega)]
    exact ⟨rfl, vp_in_nI hj (ow_mn k)⟩
  · have := mn_le k
    rw [(hc k hk).2, e50, kf_at hj, mf_at hk (by omega)]
  · have := mn_le k
    rw [e51, mf_at hk (by omega), mf_at hk (by omega)] at e
    have e2 := congrArg Int32.toNatClampNeg e
    rw [nI_clamp (by omega), nI_clamp (by omega)] at e2
    exact e2
theorem ct_go {A A' : Nat → Prop} {t0 t1 t2 : Nat} {s U : State} {H : Heap} {locs : List Loc} (h : ct_S A t0 t1 t2 s) (hS : va_S A s.heap H locs) (hU : U.heap = H) (hW : s.WarmedH U.vm) (hF : ∀ q, A' q → A q) : ct_S A' t0 t1 t2 U := by
  obtain ⟨z0, z1, z2, u0, u1, u2, hn, ho, ha⟩ := h
  have hk : ∀ a : Nat, a < s.heap.size → ¬ A a → U.heap[a]? = s.heap[a]? := fun a h8 h9 => by rw [hU]; exact hS.2.1 a h8 h9
  exact ⟨va_Z.moved hW.alike ((z0.kept hk).narrow hF), va_Z.moved hW.alike ((z1.kept hk).narrow hF), va_Z.moved hW.alike ((z2.kept hk).narrow hF), va_T.moved hW.alike ((u0.kept hk).narrow hF), va_T.moved hW.alike ((u1.kept hk).narrow hF), va_T.moved hW.alike ((u2.kept hk).narrow hF), ow_nest_go hW hn, va_AO.moved hW.alike ho, va_AOA.moved hW.alike ha⟩
theorem ct_call {A : Nat → Prop} {t0 t1 t2 : Nat} {U : State} {a : Array Value} {g : JFrame} {mk : MethodId} (h : ct_S A t0 t1 t2 U) : ct_S A t0 t1 t2 (U.calling g mk a) := by
  obtain ⟨z0, z1, z2, u0, u1, u2, hn, ho, ha⟩ := h
  have hv : U.vm.Alike (U.calling g mk a).vm := Vm.Alike.refl U.vm
  exact ⟨va_Z.moved hv z0, va_Z.moved hv z1, va_Z.moved hv z2, va_T.moved hv u0, va_T.moved hv u1, va_T.moved hv u2, ow_nest_same (s := U) (U := U.calling g mk a) rfl hn, va_AO.moved hv ho, va_AOA.moved hv ha⟩
def en_ad (q : List (List Nat)) : ow_Ad := fun g i => (q.getD g []).getD i 0
theorem en_many : (upd (upd (upd (fun _ => 0) 0 5) 1 7) 2 26) = ow_mny := by
  funext j
  by_cases h : j < 3
  · rcases (show j = 0 ∨ j = 1 ∨ j = 2 by omega) with rfl | rfl | rfl <;> rfl
  · unfold upd ow_mny
    rw [if_neg (by omega), if_neg (by omega), if_neg (by omega), List.getD_eq_getElem?_getD, List.getElem?_eq_none (by simp; omega)]
    rfl
theorem en_names : (vp_updL (vp_updL (vp_updL (vp_updL (vp_updL (vp_updL (vp_updL (vp_updL (vp_updL (vp_updL (vp_updL (vp_updL (fun _ => 0) 0 435459026032) 1 1684107122) 2 1853321076) 3 491328530802) 4 1819044200) 5 28532) 6 1836020326) 7 1918985582) 8 1919252079) 9 491327352437) 10 121399003081079) 11 111481940305250) = ow_nmM := by
  funext j
  by_cases h : j < 12
  · rcases (show j = 0 ∨ j = 1 ∨ j = 2 ∨ j = 3 ∨ j = 4 ∨ j = 5 ∨ j = 6 ∨ j = 7 ∨ j = 8 ∨ j = 9 ∨ j = 10 ∨ j = 11 by omega) with rfl | rfl | rfl | rfl | rfl | rfl | rfl | rfl | rfl | rfl | rfl | rfl <;> rfl
  · unfold vp_updL ow_nmM
    rw [if_neg (by omega), if_neg (by omega), if_neg (by omega), if_neg (by omega), if_neg (by omega), if_neg (by omega), if_neg (by omega), if_neg (by omega), if_neg (by omega), if_neg (by omega), if_neg (by omega), if_neg (by omega), List.getD_eq_getElem?_getD, List.getElem?_eq_none (by simp [ow_nmA, ow_nmB]; omega)]
    rfl
theorem en_sets (u : Nat → Nat) : (va_up (va_up (va_up (va_up (va_up (va_up (va_up (va_up (va_up (va_up (fun _ => none) 0 (some (u 0))) 1 (some (u 1))) 2 (some (u 2))) 3 (some (u 3))) 4 (some (u 4))) 5 (some (u 5))) 6 (some (u 6))) 7 (some (u 7))) 8 (some (u 8))) 9 (some (u 9))) = (fun j => if j < 10 then some (u j) else none) := by
  funext j
  by_cases h : j < 10
  · rcases (show j = 0 ∨ j = 1 ∨ j = 2 ∨ j = 3 ∨ j = 4 ∨ j = 5 ∨ j = 6 ∨ j = 7 ∨ j = 8 ∨ j = 9 by omega) with rfl | rfl | rfl | rfl | rfl | rfl | rfl | rfl | rfl | rfl <;> rfl
  · unfold va_up
    rw [if_neg (by omega), if_neg (by omega), if_neg (by omega), if_neg (by omega), if_neg (by omega), if_neg (by omega), if_neg (by omega), if_neg (by omega), if_neg (by omega), if_neg (by omega), if_neg h]
theorem en_cols {r u : Nat → Nat} (h0 : u 0 = r 0) (h1 : u 1 = r 1) (h2 : u 2 = r 2) (h3 : u 3 = r 3) : (fun i => if i < 4 then some (r i) else none) = (fun j => if j < 4 then some (u j) else none) := by
  funext j
  by_cases h : j < 4
  · rw [if_pos h, if_pos h]
    rcases (show j = 0 ∨ j = 1 ∨ j = 2 ∨ j = 3 by omega) with rfl | rfl | rfl | rfl
    · rw [h0]
    · rw [h1]
    · rw [h2]
    · rw [h3]
  · rw [if_neg h, if_neg h]
theorem en_t0 {b : Nat} {s : State} (h : (Jvm.Cond.and given_1 narrow_1).before #[Value.ref b] s = true) (hl : (Cond.laysStatic "RecordLabels" "NODE_NAMES" "[J").before #[Value.ref b] s = true) (hini : (Cond.initialized "RecordLabels").before #[Value.ref b] s = true) : ∃ t, va_Z "RecordLabels" "NODE_NAMES" "[J" (.ref t) (fun q : Nat => s.heap.size ≤ q) s s.heap ∧ va_T .long t 5 (fun j => .long (ow_nm 0 j)) (fun q : Nat => s.heap.size ≤ q) s s.heap := by
  have hs := flat_of_before _ h
  have hA : ∀ a : Nat, a < s.heap.size → ¬ (fun q : Nat => s.heap.size ≤ q) a := fun a ha => Nat.not_le.mpr ha
  obtain ⟨t, h1, h2⟩ := va_Tof (tm := (Term.static "RecordLabels" "NODE_NAMES" "[J")) (ty := .long) (N := 5) (f := fun j => .long (ow_nm 0 j)) (by decide) (hs (.arrayOf (Term.static "RecordLabels" "NODE_NAMES" "[J") .long) (by decide +kernel)) (va_eqt (z := 5) (hs (.eq (.length (Term.static "RecordLabels" "NODE_NAMES" "[J")) (.int 5)) (by decide +kernel))) (by
    intro j hj
    rcases (show j = 0 ∨ j = 1 ∨ j = 2 ∨ j = 3 ∨ j = 4 by omega) with rfl | rfl | rfl | rfl | rfl
    · exact va_eqtl (z := 435459026032) (hs (.eq (.elem (Term.static "RecordLabels" "NODE_NAMES" "[J") (.int 0)) (.long 435459026032)) (by decide +kernel))
    · exact va_eqtl (z := 1684107122) (hs (.eq (.elem (Term.static "RecordLabels" "NODE_NAMES" "[J") (.int 1)) (.long 1684107122)) (by decide +kernel))
    · exact va_eqtl (z := 1853321076) (hs (.eq (.elem (Term.static "RecordLabels" "NODE_NAMES" "[J") (.int 2)) (.long 1853321076)) (by decide +kernel))
    · exact va_eqtl (z := 491328530802) (hs (.eq (.elem (Term.static "RecordLabels" "NODE_NAMES" "[J") (.int 3)) (.long 491328530802)) (by decide +kernel))
    · exact va_eqtl (z := 1819044200) (hs (.eq (.elem (Term.static "RecordLabels" "NODE_NAMES" "[J") (.int 4)) (.long 1819044200)) (by decide +kernel))
    ) hA
  exact ⟨t, va_Zof hl hini h1 hA, h2⟩
theorem en_t1 {b : Nat} {s : State} (h : (Jvm.Cond.and given_1 narrow_1).before #[Value.ref b] s = true) (hl : (Cond.laysStatic "RecordLabels" "ARC_NAMES" "[J").before #[Value.ref b] s = true) (hini : (Cond.initialized "RecordLabels").before #[Value.ref b] s = true) : ∃ t, va_Z "RecordLabels" "ARC_NAMES" "[J" (.ref t) (fun q : Nat => s.heap.size ≤ q) s s.heap ∧ va_T .long t 7 (fun j => .long (ow_nm 1 j)) (fun q : Nat => s.heap.size ≤ q) s s.heap := by
  have hs := flat_of_before _ h
  have hA : ∀ a : Nat, a < s.heap.size → ¬ (fun q : Nat => s.heap.size ≤ q) a := fun a ha => Nat.not_le.mpr ha
  obtain ⟨t, h1, h2⟩ := va_Tof (tm := (Term.static "RecordLabels" "ARC_NAMES" "[J")) (ty := .long) (N := 7) (f := fun j => .long (ow_nm 1 j)) (by decide) (hs (.arrayOf (Term.static "RecordLabels" "ARC_NAMES" "[J") .long) (by decide +kernel)) (va_eqt (z := 7) (hs (.eq (.length (Term.static "RecordLabels" "ARC_NAMES" "[J")) (.int 7)) (by decide +kernel))) (by
    intro j hj
    rcases (show j = 0 ∨ j = 1 ∨ j = 2 ∨ j = 3 ∨ j = 4 ∨ j = 5 ∨ j = 6 by omega) with rfl | rfl | rfl | rfl | rfl | rfl | rfl
    · exact va_eqtl (z := 28532) (hs (.eq (.elem (Term.static "RecordLabels" "ARC_NAMES" "[J") (.int 0)) (.long 28532)) (by decide +kernel))
    · exact va_eqtl (z := 1836020326) (hs (.eq (.elem (Term.static "RecordLabels" "ARC_NAMES" "[J") (.int 1)) (.long 1836020326)) (by decide +kernel))
    · exact va_eqtl (z := 1918985582) (hs (.eq (.elem (Term.static "RecordLabels" "ARC_NAMES" "[J") (.int 2)) (.long 1918985582)) (by decide +kernel))
    · exact va_eqtl (z := 1919252079) (hs (.eq (.elem (Term.static "RecordLabels" "ARC_NAMES" "[J") (.int 3)) (.long 1919252079)) (by decide +kernel))
    · exact va_eqtl (z := 491327352437) (hs (.eq (.elem (Term.static "RecordLabels" "ARC_NAMES" "[J") (.int 4)) (.long 491327352437)) (by decide +kernel))
    · exact va_eqtl (z := 121399003081079) (hs (.eq (.elem (Term.static "RecordLabels" "ARC_NAMES" "[J") (.int 5)) (.long 121399003081079)) (by decide +kernel))
    · exact va_eqtl (z := 111481940305250) (hs (.eq (.elem (Term.static "RecordLabels" "ARC_NAMES" "[J") (.int 6)) (.long 111481940305250)) (by decide +kernel))
    ) hA
  exact ⟨t, va_Zof hl hini h1 hA, h2⟩
theorem en_t2 {b : Nat} {s : State} (h : (Jvm.Cond.and given_1 narrow_1).before #[Value.ref b] s = true) (hl : (Cond.laysStatic "RecordLabels" "SIGN_NAMES" "[J").before #[Value.ref b] s = true) (hini : (Cond.initialized "RecordLabels").before #[Value.ref b] s = true) : ∃ t, va_Z "RecordLabels" "SIGN_NAMES" "[J" (.ref t) (fun q : Nat => s.heap.size ≤ q) s s.heap ∧ va_T .long t 26 (fun j => .long (ow_nm 2 j)) (fun q : Nat => s.heap.size ≤ q) s s.heap := by
  have hs := flat_of_before _ h
  have hA : ∀ a : Nat, a < s.heap.size → ¬ (fun q : Nat => s.heap.size ≤ q) a := fun a ha => Nat.not_le.mpr ha
  obtain ⟨t, h1, h2⟩ := va_Tof (tm := (Term.static "RecordLabels" "SIGN_NAMES" "[J")) (ty := .long) (N := 26) (f := fun j => .long (ow_nm 2 j)) (by decide) (hs (.arrayOf (Term.static "RecordLabels" "SIGN_NAMES" "[J") .long) (by decide +kernel)) (va_eqt (z := 26) (hs (.eq (.length (Term.static "RecordLabels" "SIGN_NAMES" "[J")) (.int 26)) (by decide +kernel))) (by
    intro j hj
    rcases (show j = 0 ∨ j = 1 ∨ j = 2 ∨ j = 3 ∨ j = 4 ∨ j = 5 ∨ j = 6 ∨ j = 7 ∨ j = 8 ∨ j = 9 ∨ j = 10 ∨ j = 11 ∨ j = 12 ∨ j = 13 ∨ j = 14 ∨ j = 15 ∨ j = 16 ∨ j = 17 ∨ j = 18 ∨ j = 19 ∨ j = 20 ∨ j = 21 ∨ j = 22 ∨ j = 23 ∨ j = 24 ∨ j = 25 by omega) with rfl | rfl | rfl | rfl | rfl | rfl | rfl | rfl | rfl | rfl | rfl | rfl | rfl | rfl | rfl | rfl | rfl | rfl | rfl | rfl | rfl | rfl | rfl | rfl | rfl | rfl
    · exact va_eqtl (z := 97) (hs (.eq (.elem (Term.static "RecordLabels" "SIGN_NAMES" "[J") (.int 0)) (.long 97)) (by decide +kernel))
    · exact va_eqtl (z := 98) (hs (.eq (.elem (Term.static "RecordLabels" "SIGN_NAMES" "[J") (.int 1)) (.long 98)) (by decide +kernel))
    · exact va_eqtl (z := 99) (hs (.eq (.elem (Term.static "RecordLabels" "SIGN_NAMES" "[J") (.int 2)) (.long 99)) (by decide +kernel))
    · exact va_eqtl (z := 100) (hs (.eq (.elem (Term.static "RecordLabels" "SIGN_NAMES" "[J") (.int 3)) (.long 100)) (by decide +kernel))
    · exact va_eqtl (z := 101) (hs (.eq (.elem (Term.static "RecordLabels" "SIGN_NAMES" "[J") (.int 4)) (.long 101)) (by decide +kernel))
    · exact va_eqtl (z := 102) (hs (.eq (.elem (Term.static "RecordLabels" "SIGN_NAMES" "[J") (.int 5)) (.long 102)) (by decide +kernel))
    · exact va_eqtl (z := 103) (hs (.eq (.elem (Term.static "RecordLabels" "SIGN_NAMES" "[J") (.int 6)) (.long 103)) (by decide +kernel))
    · exact va_eqtl (z := 104) (hs (.eq (.elem (Term.static "RecordLabels" "SIGN_NAMES" "[J") (.int 7)) (.long 104)) (by decide +kernel))
    · exact va_eqtl (z := 105) (hs (.eq (.elem (Term.static "RecordLabels" "SIGN_NAMES" "[J") (.int 8)) (.long 105)) (by decide +kernel))
    · exact va_eqtl (z := 106) (hs (.eq (.elem (Term.static "RecordLabels" "SIGN_NAMES" "[J") (.int 9)) (.long 106)) (by decide +kernel))
    · exact va_eqtl (z := 107) (hs (.eq (.elem (Term.static "RecordLabels" "SIGN_NAMES" "[J") (.int 10)) (.long 107)) (by decide +kernel))
    · exact va_eqtl (z := 108) (hs (.eq (.elem (Term.static "RecordLabels" "SIGN_NAMES" "[J") (.int 11)) (.long 108)) (by decide +kernel))
    · exact va_eqtl (z := 109) (hs (.eq (.elem (Term.static "RecordLabels" "SIGN_NAMES" "[J") (.int 12)) (.long 109)) (by decide +kernel))
    · exact va_eqtl (z := 110) (hs (.eq (.elem (Term.static "RecordLabels" "SIGN_NAMES" "[J") (.int 13)) (.long 110)) (by decide +kernel))
    · exact va_eqtl (z := 111) (hs (.eq (.elem (Term.static "RecordLabels" "SIGN_NAMES" "[J") (.int 14)) (.long 111)) (by decide +kernel))
    · exact va_eqtl (z := 112) (hs (.eq (.elem (Term.static "RecordLabels" "SIGN_NAMES" "[J") (.int 15)) (.long 112)) (by decide +kernel))
    · exact va_eqtl (z := 113) (hs (.eq (.elem (Term.static "RecordLabels" "SIGN_NAMES" "[J") (.int 16)) (.long 113)) (by decide +kernel))
    · exact va_eqtl (z := 114) (hs (.eq (.elem (Term.static "RecordLabels" "SIGN_NAMES" "[J") (.int 17)) (.long 114)) (by decide +kernel))
    · exact va_eqtl (z := 115) (hs (.eq (.elem (Term.static "RecordLabels" "SIGN_NAMES" "[J") (.int 18)) (.long 115)) (by decide +kernel))
    · exact va_eqtl (z := 116) (hs (.eq (.elem (Term.static "RecordLabels" "SIGN_NAMES" "[J") (.int 19)) (.long 116)) (by decide +kernel))
    · exact va_eqtl (z := 117) (hs (.eq (.elem (Term.static "RecordLabels" "SIGN_NAMES" "[J") (.int 20)) (.long 117)) (by decide +kernel))
    · exact va_eqtl (z := 118) (hs (.eq (.elem (Term.static "RecordLabels" "SIGN_NAMES" "[J") (.int 21)) (.long 118)) (by decide +kernel))
    · exact va_eqtl (z := 119) (hs (.eq (.elem (Term.static "RecordLabels" "SIGN_NAMES" "[J") (.int 22)) (.long 119)) (by decide +kernel))
    · exact va_eqtl (z := 120) (hs (.eq (.elem (Term.static "RecordLabels" "SIGN_NAMES" "[J") (.int 23)) (.long 120)) (by decide +kernel))
    · exact va_eqtl (z := 121) (hs (.eq (.elem (Term.static "RecordLabels" "SIGN_NAMES" "[J") (.int 24)) (.long 121)) (by decide +kernel))
    · exact va_eqtl (z := 122) (hs (.eq (.elem (Term.static "RecordLabels" "SIGN_NAMES" "[J") (.int 25)) (.long 122)) (by decide +kernel))
    ) hA
  exact ⟨t, va_Zof hl hini h1 hA, h2⟩
theorem en_t3 {b : Nat} {s : State} (h : (Jvm.Cond.and given_1 narrow_1).before #[Value.ref b] s = true) (hl : (Cond.laysStatic "RecordLabels" "WITHIN_ITEMS" "[J").before #[Value.ref b] s = true) (hini : (Cond.initialized "RecordLabels").before #[Value.ref b] s = true) : ∃ t, va_Z "RecordLabels" "WITHIN_ITEMS" "[J" (.ref t) (fun q : Nat => s.heap.size ≤ q) s s.heap ∧ va_T .long t 3 (fun j => .long (ow_wi j)) (fun q : Nat => s.heap.size ≤ q) s s.heap := by
  have hs := flat_of_before _ h
  have hA : ∀ a : Nat, a < s.heap.size → ¬ (fun q : Nat => s.heap.size ≤ q) a := fun a ha => Nat.not_le.mpr ha
  obtain ⟨t, h1, h2⟩ := va_Tof (tm := (Term.static "RecordLabels" "WITHIN_ITEMS" "[J")) (ty := .long) (N := 3) (f := fun j => .long (ow_wi j)) (by decide) (hs (.arrayOf (Term.static "RecordLabels" "WITHIN_ITEMS" "[J") .long) (by decide +kernel)) (va_eqt (z := 3) (hs (.eq (.length (Term.static "RecordLabels" "WITHIN_ITEMS" "[J")) (.int 3)) (by decide +kernel))) (by
    intro j hj
    rcases (show j = 0 ∨ j = 1 ∨ j = 2 by omega) with rfl | rfl | rfl
    · exact va_eqtl (z := 5) (hs (.eq (.elem (Term.static "RecordLabels" "WITHIN_ITEMS" "[J") (.int 0)) (.long 5)) (by decide +kernel))
    · exact va_eqtl (z := 7) (hs (.eq (.elem (Term.static "RecordLabels" "WITHIN_ITEMS" "[J") (.int 1)) (.long 7)) (by decide +kernel))
    · exact va_eqtl (z := 9) (hs (.eq (.elem (Term.static "RecordLabels" "WITHIN_ITEMS" "[J") (.int 2)) (.long 9)) (by decide +kernel))
    ) hA
  exact ⟨t, va_Zof hl hini h1 hA, h2⟩
theorem en_nest : ∀ w ∈ ow_nest, w ∈ lw_tbl ∧ w.onTables = true := by decide +kernel
theorem en_K {b : Nat} {s : State} (hts : ∀ w ∈ wsL_law, w.before #[Value.ref b] s = true) (h3 : va_AO "RecordLabels$LabelSet" s) (h4 : va_AOA .int s) : ∃ (D : va_G) (ca : Nat → ClassId), va_K D vwCl (ow_ty ca) s := by
  obtain ⟨c0, i0, k0⟩ := u_known (C := RX0) (T := TX0) (N := 7) (n := 7) hts (fun w h => (gL_law_X3_init w (li_X3_init_X0 w h)).1) (hts (.instantiable RX0 7) (by decide +kernel))
  obtain ⟨c1, i1, k1⟩ := u_known (C := RX1) (T := TX1) (N := 2) (n := 2) hts (fun w h => (gL_law_X3_init w (li_X3_init_X1 w h)).1) (hts (.instantiable RX1 2) (by decide +kernel))
  obtain ⟨c2, i2, k2⟩ := u_known (C := RX2) (T := TX2) (N := 5) (n := 5) hts (fun w h => (gL_law_X3_init w (li_X3_init_X2 w h)).1) (hts (.instantiable RX2 5) (by decide +kernel))
  obtain ⟨c3, i3, k3⟩ := u_known (C := RX3) (T := TX3) (N := 14) (n := 14) hts (fun w h => (gL_law_X3_init w (li_X3_init_X3 w h)).1) (hts (.instantiable RX3 14) (by decide +kernel))
  obtain ⟨c4, i4, k4⟩ := u_known (C := RX4) (T := TX4) (N := 19) (n := 19) hts (fun w h => (gL_law_X4_init w (li_X4_init_X4 w h)).1) (hts (.instantiable RX4 19) (by decide +kernel))
  obtain ⟨a0, y0, m0, f0, g0, e0⟩ := Cond.arrayClass_spec (hts (.arrayClass .int) (by decide +kernel))
  obtain ⟨a1, y1, m1, f1, g1, e1⟩ := Cond.arrayClass_spec (hts (.arrayClass .long) (by decide +kernel))
  obtain ⟨a2, y2, m2, f2, g2, e2⟩ := Cond.arrayClass_spec (hts (.arrayClass .boolean) (by decide +kernel))
  obtain ⟨m3, a3, y3, f3, -, g3, e3, n3⟩ := Cond.arrayOver_spec h3
  obtain ⟨m4, a4, y4, f4, -, g4, e4, n4⟩ := va_AOA.find h4
  refine ⟨(fun k => if k = 0 then c0 else if k = 1 then c1 else if k = 2 then c2 else if k = 3 then c3 else c4, fun k => if k = 0 then i0 else if k = 1 then i1 else if k = 2 then i2 else if k = 3 then i3 else i4), fun k => if k = 0 then a0 else if k = 1 then a1 else if k = 2 then a2 else if k = 3 then a3 else a4, ?_, ?_⟩
  · intro k q hq
    match k, hq with
    | 0, hq => cases hq; exact k0
    | 1, hq => cases hq; exact k1
    | 2, hq => cases hq; exact k2
    | 3, hq => cases hq; exact k3
    | 4, hq => cases hq; exact k4
    | k + 5, hq => simp [vwCl] at hq
  · intro k q hq
    match k, hq with
    | 0, hq => cases hq; exact ⟨fun N z => ⟨(fun k h => by cases h), y0, g0, m0, e0⟩, f0⟩
    | 1, hq => cases hq; exact ⟨fun N z => ⟨(fun k h => by cases h), y1, g1, m1, e1⟩, f1⟩
    | 2, hq => cases hq; exact ⟨fun N z => ⟨(fun k h => by cases h), y2, g2, m2, e2⟩, f2⟩
    | 3, hq => cases hq; exact ⟨fun N z => ⟨(fun k h => by cases h), y3, g3, m3, e3⟩, y3, m3, g3, e3, f3, n3⟩
    | 4, hq => cases hq; exact ⟨fun N z => ⟨(fun k h => by cases h), y4, g4, m4, e4⟩, n4⟩
    | k + 5, hq => simp [ow_ty] at hq
