
/-! THE RELATION between the class's part of the state and the reference's, and what each side needs of it. -/
def small26 (v : Int32) : Prop := ∃ n, n < 2 ^ 26 ∧ v = nI n
def rl_con (st : ow_St) : Prop := ∀ k, k < 3 → ∀ j, j < mn k → st.1 (100 + 4 * k) j = st.1 51 (26 * k + j) ∧ vp_in (st.1 51 (26 * k + j)) (mn k)
def rl_cod (st : ow_St) : Prop := ∀ k, k < 3 → ∀ j, j < mn k → st.1 (101 + 4 * k) j = st.1 50 (26 * k + j)
def rl_inj (st : ow_St) : Prop := ∀ k, k < 3 → ∀ a, a < mn k → ∀ b, b < mn k → st.1 51 (26 * k + a) = st.1 51 (26 * k + b) → a = b
def rl_sta (st : ow_St) : Prop := ∀ k, k < 3 → st.1 1 k = st.1 52 k ∧ st.1 2 k = st.1 53 k ∧ (st.1 52 k = 0 ∨ st.1 52 k = 1 ∨ st.1 52 k = 2)
def rl_num (st : ow_St) : Prop := st.2.1 0 = st.2.1 1 ∧ st.1 0 0 = st.1 61 0 ∧ st.1 0 1 = st.1 61 1
def rl_fnd (st : ow_St) : Prop := st.1 0 2 = st.1 61 3 ∧ (∃ n, n ≤ 30 ∧ st.1 61 3 = nI n) ∧ ∀ j, j < 30 → st.1 111 j = st.1 59 j
def rl_set (st : ow_St) : Prop := ∀ j, j < 10 → st.2.2 (j + 1) < 3 ∧ st.1 54 j = nI (st.2.2 (j + 1)) ∧ st.1 3 j = st.1 55 j ∧ small26 (st.1 55 j)
def rl_tab (st : ow_St) : Prop := ∀ t, t < 2 → st.1 4 t = st.1 56 t ∧ ∃ n, n ≤ 30 ∧ st.1 56 t = nI n
def rl_cel (st : ow_St) : Prop := ∀ r, r < 30 → (st.1 102 r = st.1 57 (4 * r) ∧ st.1 106 r = st.1 57 (4 * r + 1) ∧ st.1 110 r = st.1 57 (4 * r + 2)) ∧ (st.1 118 r = st.1 57 (120 + 4 * r) ∧ st.1 122 r = st.1 57 (120 + 4 * r + 1) ∧ st.1 126 r = st.1 57 (120 + 4 * r + 2) ∧ st.1 130 r = st.1 57 (120 + 4 * r + 3)) ∧ cellok (st.1 57 (4 * r)) 5 ∧ cellok (st.1 57 (4 * r + 2)) 26 ∧ cellok (st.1 57 (120 + 4 * r)) 7
def rl_par (st : ow_St) : Prop := (st.2.2 0 = 0 ∧ st.1 61 2 = (-4)) ∨ (st.2.2 0 = 1 ∧ st.1 61 2 = 0 ∧ (∀ d, d < 3 → st.1 107 d = st.1 58 d) ∧ cellok (st.1 58 0) 5 ∧ cellok (st.1 58 2) 26) ∨ (st.2.2 0 = 2 ∧ st.1 61 2 = 1 ∧ (∀ d, d < 4 → st.1 107 d = st.1 58 d) ∧ cellok (st.1 58 0) 7)
def RLs (st : ow_St) : Prop := rl_con st ∧ rl_cod st ∧ rl_inj st ∧ rl_sta st ∧ rl_num st ∧ rl_fnd st ∧ rl_set st ∧ rl_tab st ∧ rl_cel st ∧ rl_par st
/-- what the reference's methods need -/
def MOK (st : ow_St) : Prop := iv_mc st ∧ iv_ms st ∧ (∀ t, t < 2 → iv_mz st t) ∧ iv_mf st ∧ iv_mcl st
theorem mc_of {st : ow_St} (h : ∀ k, k < 3 → ∀ j, j < mn k → vp_in (st.1 51 (26 * k + j)) (mn k)) : iv_mc st := by
  intro x y hx hy
  obtain ⟨k, hk, rfl⟩ := vp_in_of hx (by decide)
  rw [nI_clamp (by omega)] at hy ⊢
  obtain ⟨j, hj, rfl⟩ := vp_in_of hy (ow_mn k)
  have hm : mn k ≤ 26 := by
    unfold mn
    split
    · decide
    · split <;> decide
  rw [show (26 : Int32) = nI 26 from rfl, pk_mul, nI_add, nI_clamp (by omega)]
  exact h k hk j hj
theorem RL_mok {st : ow_St} (h : RLs st) : MOK st := by
  obtain ⟨h1, h2, h3, h4, h5, h6, h7, h8, h9, h10⟩ := h
  refine ⟨mc_of (fun k hk j hj => (h1 k hk j hj).2), fun j hj => ?_, fun t ht => (h8 t ht).2, h6.2.1, fun r hr => (h9 r hr).2.2⟩
  rw [(h7 j hj).2.1]
  exact vp_in_nI (h7 j hj).1 (by decide)
theorem RL_con {st : ow_St} (h : RLs st) : iv_con st := fun k hk j hj => by
  rw [(h.1 k hk j hj).1]
  exact (h.1 k hk j hj).2
theorem RL_sk {st : ow_St} (h : RLs st) : iv_sk st := fun j hj => (h.2.2.2.2.2.2.1 j hj).1
theorem RL_sz {st : ow_St} (h : RLs st) {t : Nat} (ht : t < 2) : iv_sz st t := by
  obtain ⟨e, n, hn, e2⟩ := h.2.2.2.2.2.2.2.1 t ht
  exact ⟨n, hn, e.trans e2⟩
theorem RL_fs {st : ow_St} (h : RLs st) : iv_fs st := by
  obtain ⟨e, ⟨n, hn, e2⟩, -⟩ := h.2.2.2.2.2.1
  exact ⟨n, hn, e.trans e2⟩
/-- the reference's rows are the same -/
def sameM (st st' : ow_St) : Prop := (∀ c, 50 ≤ c → c ≤ 61 → st'.1 c = st.1 c) ∧ st'.2.1 1 = st.2.1 1 ∧ st'.2.1 2 = st.2.1 2
theorem MOK_of {st st' : ow_St} (h : MOK st) (e : sameM st st') : MOK st' := by
  obtain ⟨h1, h2, h3, h4, h5⟩ := h
  have r := e.1
  refine ⟨?_, ?_, ?_, ?_, ?_⟩
  · unfold iv_mc
    rw [r 51 (by decide) (by decide)]
    exact h1
  · unfold iv_ms
    rw [r 54 (by decide) (by decide)]
    exact h2
  · unfold iv_mz
    rw [r 56 (by decide) (by decide)]
    exact h3
  · unfold iv_mf
    rw [r 61 (by decide) (by decide)]
    exact h4
  · unfold iv_mcl
    rw [r 57 (by decide) (by decide)]
    exact h5
