theorem start_k2 {st : ow_St} {u v : Int32} {k : Nat} (hk : k < 3) (a1 : st.1 1 k = u) (a2 : st.1 2 k = v) (a3 : u = 0 ∨ u = 1 ∨ u = 2) :
    (fX0_startForRule st k = (1, ow_si st 1 k 1) ∧ ∀ z : ow_St, z.1 52 k = u → z.1 53 k = v → fX4_begin z (nI k) = (0, ow_si z 52 k 1)) ∨
    (fX0_startForRule st k = ((-8), ow_si st 1 k 2) ∧ ∀ z : ow_St, z.1 52 k = u → z.1 53 k = v → fX4_begin z (nI k) = ((-8), ow_si z 52 k 2)) ∨
    (fX0_startForRule st k = ((-9), st) ∧ ∀ z : ow_St, z.1 52 k = u → z.1 53 k = v → fX4_begin z (nI k) = ((-9), z)) := by
  unfold fX0_startForRule fX4_begin
  rw [a1, a2, kcl hk]
  rcases a3 with e | e | e
  · rw [e]
    by_cases t : v = 0
    · refine Or.inl ⟨?_, fun z e1 e2 => ?_⟩
      · rw [if_neg (by decide), if_pos rfl, if_pos t]
      · rw [e1, e2, if_pos rfl, if_pos t]
        dsimp only
        rw [if_pos (by rw [ow_si_ne (by decide), e2]; exact t)]
    · refine Or.inr (Or.inl ⟨?_, fun z e1 e2 => ?_⟩)
      · rw [if_neg (by decide), if_pos rfl, if_neg t]
      · rw [e1, e2, if_pos rfl, if_neg t]
        dsimp only
        rw [if_neg (by rw [ow_si_ne (by decide), e2]; exact t)]
  · rw [e]
    refine Or.inl ⟨?_, fun z e1 e2 => ?_⟩
    · rw [if_neg (by decide), if_neg (by decide)]
    · rw [e1, if_neg (by decide), if_neg (by decide), ow_si_id (e1)]
  · rw [e]
    refine Or.inr (Or.inr ⟨?_, fun z e1 e2 => ?_⟩)
    · rw [if_pos rfl]
    · rw [e1, if_neg (by decide), if_pos rfl]
theorem ask_k2 {st : ow_St} {u y : Int32} {k c : Nat} (hk : k < 3) (hc : c < mn k) (v : Int64) (a1 : st.1 1 k = u) (a2 : st.1 2 k = y) (a3 : u = 0 ∨ u = 1 ∨ u = 2) :
    (∃ val, askK k st (nI c) v = (1, ow_si st 1 k 1) ∧ (∀ s, valK k s (nI c) v = val) ∧ (∀ z : ow_St, z.1 52 k = u → z.1 53 k = y → fX4_begin z (nI k) = (0, ow_si z 52 k 1)) ∧ ∀ s, fX4_works s (nI k) (nI c) v = (1, ow_sl s 2 val)) ∨
    (∃ why, ¬ why = 1 ∧ ¬ why = (-8) ∧ ¬ why = (-9) ∧ askK k st (nI c) v = (why, ow_si (ow_si st 1 k 1) 0 0 (st.1 0 0 + 1)) ∧ (∀ z : ow_St, z.1 52 k = u → z.1 53 k = y → fX4_begin z (nI k) = (0, ow_si z 52 k 1)) ∧ ∀ s : ow_St, fX4_works s (nI k) (nI c) v = (why, ow_si s 61 0 (s.1 61 0 + 1))) ∨
    (askK k st (nI c) v = ((-8), ow_si st 1 k 2) ∧ ∀ z : ow_St, z.1 52 k = u → z.1 53 k = y → fX4_begin z (nI k) = ((-8), ow_si z 52 k 2)) ∨
    (askK k st (nI c) v = ((-9), st) ∧ ∀ z : ow_St, z.1 52 k = u → z.1 53 k = y → fX4_begin z (nI k) = ((-9), z)) := by
  rcases start_k2 hk a1 a2 a3 with ⟨e, b⟩ | ⟨e, b⟩ | ⟨e, b⟩
  · rcases k3 hk with rfl | rfl | rfl
    · refine Or.inl ⟨fX3_nodeValue st (nI c) v, ?_, fun s => ?_, b, fun s => works_0 hc v s st⟩
      · unfold askK fX3_askRule_0
        rw [if_pos rfl, e]
        rfl
      · rfl
    · rcases works_1 hc v with ⟨val, w1, w2, w3⟩ | ⟨why, n1, n2, n3, w1, w2⟩
      · refine Or.inl ⟨val, ?_, fun s => w3 s, b, w1⟩
        unfold askK fX3_askRule_1
        rw [if_neg (by decide), if_pos rfl, e]
        dsimp only
        rw [if_pos rfl, w2, if_pos rfl]
      · refine Or.inr (Or.inl ⟨why, n1, n2, n3, ?_, b, w1⟩)
        unfold askK fX3_askRule_1
        rw [if_neg (by decide), if_pos rfl, e]
        dsimp only
        rw [if_pos rfl, w2, if_neg n1, ow_si_ne (by decide)]
    · refine Or.inl ⟨v ^^^ (nI c).toInt64, ?_, fun s => ?_, b, fun s => ?_⟩
      · unfold askK fX3_askRule_2
        rw [if_neg (by decide), if_neg (by decide), e]
        rfl
      · rfl
      · unfold fX4_works
        rw [if_pos (show nI 2 = 2 from rfl)]
  · refine Or.inr (Or.inr (Or.inl ⟨?_, b⟩))
    rcases k3 hk with rfl | rfl | rfl
    · unfold askK fX3_askRule_0
      rw [if_pos rfl, e]
      rfl
    · unfold askK fX3_askRule_1
      rw [if_neg (by decide), if_pos rfl, e]
      rfl
    · unfold askK fX3_askRule_2
      rw [if_neg (by decide), if_neg (by decide), e]
      rfl
  · refine Or.inr (Or.inr (Or.inr ⟨?_, b⟩))
    rcases k3 hk with rfl | rfl | rfl
    · unfold askK fX3_askRule_0
      rw [if_pos rfl, e]
      rfl
    · unfold askK fX3_askRule_1
      rw [if_neg (by decide), if_pos rfl, e]
      rfl
    · unfold askK fX3_askRule_2
      rw [if_neg (by decide), if_neg (by decide), e]
      rfl

/-- what a search leaves as it was: the class's side, the reference's -/
def FS (st S : ow_St) : Prop := (∀ c, c ≠ 103 → c ≠ 111 → c ≠ 0 → S.1 c = st.1 c) ∧ S.1 0 0 = st.1 0 0 ∧ S.1 0 1 = st.1 0 1 ∧ S.2 = st.2
def FZ (st Z : ow_St) : Prop := (∀ c, 50 ≤ c → c ≤ 61 → c ≠ 59 → c ≠ 61 → Z.1 c = st.1 c) ∧ Z.1 61 0 = st.1 61 0 ∧ Z.1 61 1 = st.1 61 1 ∧ Z.1 61 2 = st.1 61 2 ∧ Z.2.1 1 = st.2.1 1
def sameC (Z Z' : ow_St) : Prop := (∀ c, c < 50 ∨ 61 < c → Z'.1 c = Z.1 c) ∧ Z'.2.1 0 = Z.2.1 0 ∧ Z'.2.2 = Z.2.2
theorem sameC.rf (Z : ow_St) : sameC Z Z := ⟨fun _ _ => rfl, rfl, rfl⟩
theorem sameC.tr {A B C : ow_St} (h : sameC A B) (h2 : sameC B C) : sameC A C := ⟨fun c hc => (h2.1 c hc).trans (h.1 c hc), h2.2.1.trans h.2.1, h2.2.2.trans h.2.2⟩
theorem sameC.si {A : ow_St} {c i : Nat} {v : Int32} (h : 50 ≤ c) (h2 : c ≤ 61) : sameC A (ow_si A c i v) := ⟨fun c' hc => ow_si_ne (by omega), rfl, rfl⟩
theorem sameC.sl {A : ow_St} {v : Int64} : sameC A (ow_sl A 2 v) := ⟨fun c' hc => rfl, ow_sl_n (by decide), rfl⟩
theorem FS.si {st S : ow_St} (h : FS st S) {c i : Nat} {v : Int32} (hc : c = 103 ∨ c = 111 ∨ (c = 0 ∧ i = 2)) : FS st (ow_si S c i v) :=
  ⟨fun c' h1 h2 h3 => (ow_si_ne (by omega)).trans (h.1 c' h1 h2 h3), (ow_si_n2 (by omega)).trans h.2.1, (ow_si_n2 (by omega)).trans h.2.2.1, h.2.2.2⟩
theorem FZ.si {st S : ow_St} (h : FZ st S) {c i : Nat} {v : Int32} (hc : c = 59 ∨ (c = 61 ∧ i = 3)) : FZ st (ow_si S c i v) :=
  ⟨fun c' h1 h2 h3 h4 => (ow_si_ne (by omega)).trans (h.1 c' h1 h2 h3 h4), (ow_si_n2 (by omega)).trans h.2.1, (ow_si_n2 (by omega)).trans h.2.2.1, (ow_si_n2 (by omega)).trans h.2.2.2.1, h.2.2.2.2⟩
def GS (st S : ow_St) : Prop := (∀ c, c ≠ 103 → c ≠ 1 → c ≠ 0 → S.1 c = st.1 c) ∧ S.1 0 1 = st.1 0 1 ∧ S.1 0 2 = st.1 0 2 ∧ S.2 = st.2
def GZ (st Z : ow_St) : Prop := (∀ c, 50 ≤ c → c ≤ 61 → c ≠ 52 → c ≠ 61 → Z.1 c = st.1 c) ∧ Z.1 61 1 = st.1 61 1 ∧ Z.1 61 2 = st.1 61 2 ∧ Z.1 61 3 = st.1 61 3 ∧ Z.2.1 1 = st.2.1 1
def GJ (S Z : ow_St) : Prop := (∀ k, k < 3 → S.1 1 k = Z.1 52 k ∧ S.1 2 k = Z.1 53 k ∧ (Z.1 52 k = 0 ∨ Z.1 52 k = 1 ∨ Z.1 52 k = 2)) ∧ S.1 0 0 = Z.1 61 0
theorem GS.si {st S : ow_St} (h : GS st S) {c i : Nat} {v : Int32} (hc : c = 103 ∨ c = 1 ∨ (c = 0 ∧ i = 0)) : GS st (ow_si S c i v) :=
  ⟨fun c' h1 h2 h3 => (ow_si_ne (by omega)).trans (h.1 c' h1 h2 h3), (ow_si_n2 (by omega)).trans h.2.1, (ow_si_n2 (by omega)).trans h.2.2.1, h.2.2.2⟩
theorem GZ.si {st S : ow_St} (h : GZ st S) {c i : Nat} {v : Int32} (hc : c = 52 ∨ (c = 61 ∧ i = 0)) : GZ st (ow_si S c i v) :=
  ⟨fun c' h1 h2 h3 h4 => (ow_si_ne (by omega)).trans (h.1 c' h1 h2 h3 h4), (ow_si_n2 (by omega)).trans h.2.1, (ow_si_n2 (by omega)).trans h.2.2.1, (ow_si_n2 (by omega)).trans h.2.2.2.1, h.2.2.2.2⟩
theorem GZ.sl {st S : ow_St} (h : GZ st S) {v : Int64} : GZ st (ow_sl S 2 v) := ⟨h.1, h.2.1, h.2.2.1, h.2.2.2.1, (ow_sl_n (by decide)).trans h.2.2.2.2⟩
theorem GJ.set {S Z S' Z' : ow_St} (h : GJ S Z) {t : Nat} {v : Int32} (hv : v = 1 ∨ v = 2) (e1 : S'.1 1 = (ow_si S 1 t v).1 1) (e2 : S'.1 2 = S.1 2) (e3 : Z'.1 52 = (ow_si Z 52 t v).1 52) (e4 : Z'.1 53 = Z.1 53) (e5 : S'.1 0 0 = Z'.1 61 0) : GJ S' Z' := by
  refine ⟨fun k hk => ?_, e5⟩
  obtain ⟨a1, a2, a3⟩ := h.1 k hk
  rw [e1, e2, e3, e4]
  by_cases e : k = t
  · subst e
    rw [ow_si_e, ow_si_e]
    exact ⟨rfl, a2, Or.inr hv⟩
  · rw [ow_si_n2 (by omega), ow_si_n2 (by omega)]
    exact ⟨a1, a2, a3⟩
theorem RL_fil {st C Z : ow_St} (h : RLs st) (hC : FS st C) (hZ : FZ st Z) (hs : sameC C Z) (hf : C.1 0 2 = Z.1 61 3 ∧ (∃ n, n ≤ 30 ∧ Z.1 61 3 = nI n) ∧ ∀ j, j < 30 → C.1 111 j = Z.1 59 j) : RLs Z := by
  have k : ∀ c, c < 50 ∨ 61 < c → c ≠ 103 → c ≠ 111 → c ≠ 0 → Z.1 c = st.1 c := fun c h1 h2 h3 h4 => (hs.1 c h1).trans (hC.1 c h2 h3 h4)
  have z := fun c h1 h2 h3 h4 => hZ.1 c h1 h2 h3 h4
  have r0 : Z.2.2 = st.2.2 := hs.2.2.trans (by rw [hC.2.2.2])
  have l0 : Z.2.1 0 = st.2.1 0 := hs.2.1.trans (by rw [hC.2.2.2])
  have z0 : Z.1 0 = C.1 0 := hs.1 0 (by decide)
  exact ⟨con_c h.1 (fun j hj => k _ (by omega) (by omega) (by omega) (by omega)) (z 51 (by decide) (by decide) (by decide) (by decide)),
    cod_c h.2.1 (fun j hj => k _ (by omega) (by omega) (by omega) (by omega)) (z 50 (by decide) (by decide) (by decide) (by decide)),
    inj_c h.2.2.1 (z 51 (by decide) (by decide) (by decide) (by decide)),
    sta_c h.2.2.2.1 (k 1 (by decide) (by decide) (by decide) (by decide)) (k 2 (by decide) (by decide) (by decide) (by decide)) (z 52 (by decide) (by decide) (by decide) (by decide)) (z 53 (by decide) (by decide) (by decide) (by decide)),
    num_c h.2.2.2.2.1 l0 hZ.2.2.2.2 (by rw [z0]; exact hC.2.1) (by rw [z0]; exact hC.2.2.1) hZ.2.1 hZ.2.2.1,
    ⟨by rw [z0]; exact hf.1, hf.2.1, fun j hj => by rw [hs.1 111 (by decide)]; exact hf.2.2 j hj⟩,
    set_c h.2.2.2.2.2.2.1 (fun j => by rw [r0]) (z 54 (by decide) (by decide) (by decide) (by decide)) (k 3 (by decide) (by decide) (by decide) (by decide)) (z 55 (by decide) (by decide) (by decide) (by decide)),
    tab_c h.2.2.2.2.2.2.2.1 (k 4 (by decide) (by decide) (by decide) (by decide)) (z 56 (by decide) (by decide) (by decide) (by decide)),
    cel_c h.2.2.2.2.2.2.2.2.1 (k 102 (by decide) (by decide) (by decide) (by decide)) (k 106 (by decide) (by decide) (by decide) (by decide)) (k 110 (by decide) (by decide) (by decide) (by decide)) (k 118 (by decide) (by decide) (by decide) (by decide)) (k 122 (by decide) (by decide) (by decide) (by decide)) (k 126 (by decide) (by decide) (by decide) (by decide)) (k 130 (by decide) (by decide) (by decide) (by decide)) (z 57 (by decide) (by decide) (by decide) (by decide)),
    par_c h.2.2.2.2.2.2.2.2.2 (by rw [r0]) hZ.2.2.2.1 (k 107 (by decide) (by decide) (by decide) (by decide)) (z 58 (by decide) (by decide) (by decide) (by decide))⟩
theorem RL_sum {st C Z : ow_St} (h : RLs st) (hC : GS st C) (hZ : GZ st Z) (hs : sameC C Z) (hJ : GJ C Z) : RLs Z := by
  have k : ∀ c, c < 50 ∨ 61 < c → c ≠ 103 → c ≠ 1 → c ≠ 0 → Z.1 c = st.1 c := fun c h1 h2 h3 h4 => (hs.1 c h1).trans (hC.1 c h2 h3 h4)
  have z := fun c h1 h2 h3 h4 => hZ.1 c h1 h2 h3 h4
  have r0 : Z.2.2 = st.2.2 := hs.2.2.trans (by rw [hC.2.2.2])
  have l0 : Z.2.1 0 = st.2.1 0 := hs.2.1.trans (by rw [hC.2.2.2])
  have z0 : Z.1 0 = C.1 0 := hs.1 0 (by decide)
  exact ⟨con_c h.1 (fun j hj => k _ (by omega) (by omega) (by omega) (by omega)) (z 51 (by decide) (by decide) (by decide) (by decide)),
    cod_c h.2.1 (fun j hj => k _ (by omega) (by omega) (by omega) (by omega)) (z 50 (by decide) (by decide) (by decide) (by decide)),
    inj_c h.2.2.1 (z 51 (by decide) (by decide) (by decide) (by decide)),
    fun j hj => by rw [hs.1 1 (by decide), hs.1 2 (by decide)]; exact hJ.1 j hj,
    ⟨l0.trans (h.2.2.2.2.1.1.trans hZ.2.2.2.2.symm), by rw [z0]; exact hJ.2, by rw [z0, hC.2.1, hZ.2.1]; exact h.2.2.2.2.1.2.2⟩,
    fnd_c h.2.2.2.2.2.1 (by rw [z0]; exact hC.2.2.1) hZ.2.2.2.1 (k 111 (by decide) (by decide) (by decide) (by decide)) (z 59 (by decide) (by decide) (by decide) (by decide)),
    set_c h.2.2.2.2.2.2.1 (fun j => by rw [r0]) (z 54 (by decide) (by decide) (by decide) (by decide)) (k 3 (by decide) (by decide) (by decide) (by decide)) (z 55 (by decide) (by decide) (by decide) (by decide)),
    tab_c h.2.2.2.2.2.2.2.1 (k 4 (by decide) (by decide) (by decide) (by decide)) (z 56 (by decide) (by decide) (by decide) (by decide)),
    cel_c h.2.2.2.2.2.2.2.2.1 (k 102 (by decide) (by decide) (by decide) (by decide)) (k 106 (by decide) (by decide) (by decide) (by decide)) (k 110 (by decide) (by decide) (by decide) (by decide)) (k 118 (by decide) (by decide) (by decide) (by decide)) (k 122 (by decide) (by decide) (by decide) (by decide)) (k 126 (by decide) (by decide) (by decide) (by decide)) (k 130 (by decide) (by decide) (by decide) (by decide)) (z 57 (by decide) (by decide) (by decide) (by decide)),
    par_c h.2.2.2.2.2.2.2.2.2 (by rw [r0]) hZ.2.2.1 (k 107 (by decide) (by decide) (by decide) (by decide)) (z 58 (by decide) (by decide) (by decide) (by decide))⟩
theorem lt1 {x : Int32} (h0 : ¬ x = 0) : x < 1 ↔ x < 0 := by
  have h1 : x.toInt ≠ 0 := fun q => h0 (Int32.toInt_inj.mp (by rw [q]; decide))
  rw [Int32.lt_iff_toInt_lt, Int32.lt_iff_toInt_lt]
  have e1 : (1 : Int32).toInt = 1 := by decide
  have e2 : (0 : Int32).toInt = 0 := by decide
  omega
theorem isIn_1 {z : ow_St} {x y : Int32} (h0 : ¬ x = 0) : fX4_isIn z x 1 y = fX4_isIn z x 0 y := by
  unfold fX4_isIn
  by_cases c : x < 0
  · rw [if_pos c, if_pos ((lt1 h0).mpr c)]
  · rw [if_neg c, if_neg (fun q => c ((lt1 h0).mp q))]
/-- a search's two sides -/
def FR (st : ow_St) (Z : ow_St) (R3 R4 : Int32 × ow_St) : Prop := ∃ m, m ≤ 30 ∧ R3.1 = nI m ∧ R4.1 = nI m ∧ FS st R3.2 ∧ FZ st R4.2 ∧ R3.2.1 0 2 = nI m ∧ R4.2.1 61 3 = nI m ∧ (∀ j, j < 30 → R3.2.1 111 j = R4.2.1 59 j) ∧ sameC Z R4.2
theorem FR.tr {st Z Z' : ow_St} {R3 R4 : Int32 × ow_St} (h : FR st Z' R3 R4) (h2 : sameC Z Z') : FR st Z R3 R4 := by
  obtain ⟨m, a1, a2, a3, a4, a5, a6, a7, a8, a9⟩ := h
  exact ⟨m, a1, a2, a3, a4, a5, a6, a7, a8, h2.tr a9⟩
def GR (st : ow_St) (Z : ow_St) (R3 R4 : Int64 × ow_St) : Prop := R3.1 = R4.1 ∧ GS st R3.2 ∧ GZ st R4.2 ∧ GJ R3.2 R4.2 ∧ sameC Z R4.2
theorem GR.tr {st Z Z' : ow_St} {R3 R4 : Int64 × ow_St} (h : GR st Z' R3 R4) (h2 : sameC Z Z') : GR st Z R3 R4 := ⟨h.1, h.2.1, h.2.2.1, h.2.2.2.1, h2.tr h.2.2.2.2⟩
theorem askT_0 (s : ow_St) (c : Int32) (v : Int64) : fX3_askRule_0 s c v = askK 0 s c v := by unfold askK; rw [if_pos rfl]
theorem askT_1 (s : ow_St) (c : Int32) (v : Int64) : fX3_askRule_1 s c v = askK 1 s c v := by unfold askK; rw [if_neg (by decide), if_pos rfl]
theorem valT_0 (s : ow_St) (c : Int32) (v : Int64) : fX3_valueOf_0 s c v = valK 0 s c v := by unfold valK; rw [if_pos rfl]
theorem valT_1 (s : ow_St) (c : Int32) (v : Int64) : fX3_valueOf_1 s c v = valK 1 s c v := by unfold valK; rw [if_neg (by decide), if_pos rfl]

theorem drF_0 {st S : ow_St} (h : rl_cel st) {i : Nat} (hr : i < 30) (hc : ∀ c, 102 ≤ c → c ≤ 130 → c ≠ 103 → c ≠ 111 → S.1 c = st.1 c) (c1 : ¬ fX2_hasRecord_0 S (nI i) = 0) : ∃ D, fX3_draftOf_0 S (nI i) = D ∧ (∀ c, c ≠ 103 → D.1 c = S.1 c) ∧ D.2 = S.2 ∧ D.1 103 0 = st.1 57 (4 * i) ∧ D.1 103 1 = st.1 57 (4 * i + 1) ∧ D.1 103 2 = st.1 57 (4 * i + 2) := by
  obtain ⟨⟨q0, q1, q2⟩, ⟨p0, p1, p2, p3⟩, k0, k2, k1⟩ := h i hr
  refine ⟨_, dr_0 hr ((congrFun (hc 102 (by decide) (by decide) (by decide) (by decide)) i).trans q0) ((congrFun (hc 106 (by decide) (by decide) (by decide) (by decide)) i).trans q1) ((congrFun (hc 110 (by decide) (by decide) (by decide) (by decide)) i).trans q2) c1, fun c hc => ?_, rfl, ?_, ?_, ?_⟩
  · simp (disch := omega) only [ow_si_ne]
  all_goals (simp (disch := omega) only [ow_si_ne, ow_si_n2, ow_si_e])
theorem ff_0 {st D Z : ow_St} (h : RLs st) {i : Nat} (hr : i < 30) {x3 x4 x5 : Int32} (hx : ¬ x3 = 0) (hx2 : ¬ fX4_isIn st x3 0 2 = 0) (dF : ∀ k, k < 3 → D.1 (101 + 4 * k) = st.1 (101 + 4 * k)) (z50 : Z.1 50 = st.1 50) (z57 : Z.1 57 = st.1 57) (hd : D.1 103 0 = st.1 57 (4 * i) ∧ D.1 103 1 = st.1 57 (4 * i + 1) ∧ D.1 103 2 = st.1 57 (4 * i + 2)) : fX3_isFromTo D (fX3_fromCell_0 D x3 (D.1 103 x3.toNatClampNeg)) x4 x5 = fX4_isIn Z (fX4_toldOf_0 Z x3 (Z.1 57 (((0 + (4 * (nI i))) + x3).toNatClampNeg))) x4 x5 := by
  obtain ⟨⟨q0, q1, q2⟩, ⟨p0, p1, p2, p3⟩, k0, k2, k1⟩ := h.2.2.2.2.2.2.2.2.1 i hr
  obtain ⟨d0, d1, d2⟩ := hd
  have e1 : ∀ v, fX3_fromCell_0 D x3 v = fX3_fromCell_0 st x3 v := fun v => by
    unfold fX3_fromCell_0 fX0_codeOf fX0_has
    rw [dF 0 (by decide), dF 2 (by decide)]
  have e2 : ∀ v, fX4_toldOf_0 Z x3 v = fX4_toldOf_0 st x3 v := fun v => by
    unfold fX4_toldOf_0 fX4_codeNow fX4_kindOf_0
    rw [z50]
  rw [e1, e2, z57]
  rcases in3 (le_in (n := 2) rfl (by decide) (isIn_t hx2)) with rfl | rfl | rfl
  · exact absurd rfl hx
  · rw [ix_01 hr, show (1 : Int32).toNatClampNeg = 1 from rfl, d1, fc_0 h.2.1 (fun q => absurd q (by decide)) (fun q => absurd q (by decide))]
    rfl
  · rw [ix_02 hr, show (2 : Int32).toNatClampNeg = 2 from rfl, d2, fc_0 h.2.1 (fun q => absurd q (by decide)) (fun _ => k2)]
    rfl
theorem fil_0 {st : ow_St} (h : RLs st) {x2 x3 x4 x5 : Int32} (hs : ¬ (x2 < 0 ∨ 10 ≤ x2)) (hk : st.2.2 (x2.toNatClampNeg + 1) = 0) (hx : ¬ x3 = 0) (hx2 : ¬ fX4_isIn st x3 0 2 = 0) {N : Nat} (hN : N ≤ 30) (e1 : st.1 4 0 = nI N) (e2 : st.1 56 0 = nI N) :
    ∀ n i S Z m, FS st S → FZ st Z → S.1 0 2 = nI m → Z.1 61 3 = nI m → m ≤ i → i ≤ N → N < i + n → (∀ j, j < 30 → S.1 111 j = Z.1 59 j) → FR st Z (flX3_filter_0 x2 x3 x4 x5 n i S) (flX4_filter_0 x2 x3 x4 x5 n i Z) := by
  obtain ⟨s1, s2, s3, s5⟩ := h.2.2.2.2.2.2.1 _ (setN_b hs)
  intro n
  induction n with
  | zero => intro i S Z m hS hZ a1 a2 hm hi hn a3; omega
  | succ n ih =>
    intro i S Z m hS hZ a1 a2 hm hi hn a3
    have s4 : S.1 4 = st.1 4 := hS.1 4 (by decide) (by decide) (by decide)
    have y56 : Z.1 56 = st.1 56 := hZ.1 56 (by decide) (by decide) (by decide) (by decide)
    unfold flX3_filter_0 flX4_filter_0
    rw [s4, y56, e1, e2]
    by_cases c : nI N ≤ nI i
    · rw [if_pos c, if_pos c]
      exact ⟨m, by omega, a1, a2, hS, hZ, a1, a2, a3, sameC.rf Z⟩
    · rw [if_neg c, if_neg c]
      have hlt : i < N := ow_lt c hi (by omega)
      have hr : i < 30 := by omega
      have hcell := h.2.2.2.2.2.2.2.2.1 i hr
      obtain ⟨⟨q0, q1, q2⟩, ⟨p0, p1, p2, p3⟩, k0, k2, k1⟩ := hcell
      have c1 : ¬ fX2_hasRecord_0 S (nI i) = 0 := by
        unfold fX2_hasRecord_0
        rw [if_neg (nI_pos (by omega)), s4, e1, if_neg c]
        decide
      obtain ⟨D, qd, dF, dR, dd⟩ := drF_0 h.2.2.2.2.2.2.2.2.1 hr (fun c h1 h2 h3 h4 => hS.1 c h3 h4 (by omega)) c1
      have z57 : Z.1 57 = st.1 57 := hZ.1 57 (by decide) (by decide) (by decide) (by decide)
      have z56 : Z.1 56 = st.1 56 := hZ.1 56 (by decide) (by decide) (by decide) (by decide)
      have hds := dd
      obtain ⟨d0, d1, d2⟩ := hds
      have wc : fX3_wrongItem_0 D = wgC0 (st.1 57 (4 * i)) (st.1 57 (4 * i + 1)) (st.1 57 (4 * i + 2)) := by
        rw [wC_0, d0, d1, d2]
      have wm : fX4_wrong_0_9 Z (0 + (4 * (nI i))) = wgM0 (st.1 57 (4 * i)) (st.1 57 (4 * i + 1)) (st.1 57 (4 * i + 2)) := by
        rw [wM9_0 hr, z57]
      dsimp only
      rw [qd, wc, wm]
      have hD : FS st D := ⟨fun c h1 h2 h3 => (dF c h1).trans (hS.1 c h1 h2 h3), by rw [dF 0 (by decide)]; exact hS.2.1, by rw [dF 0 (by decide)]; exact hS.2.2.1, dR.trans hS.2.2.2⟩
      have dm : D.1 0 2 = nI m := by rw [dF 0 (by decide)]; exact a1
      have d11 : ∀ j, j < 30 → D.1 111 j = Z.1 59 j := fun j hj => by rw [dF 111 (by decide)]; exact a3 j hj
      have nxt := ih (i + 1) D Z m hD hZ dm a2 (by omega) (by omega) (by omega) d11
      rcases wg_0 (a := st.1 57 (4 * i)) (b := st.1 57 (4 * i + 1)) (c := st.1 57 (4 * i + 2)) k0 k2 with ⟨g1, g2, g3⟩ | ⟨y, g1, g2, g3, g4⟩
      · rw [g1, if_pos rfl, g2, if_pos rfl]
        obtain ⟨c', hc', ec⟩ := vp_in_of (ck k0 g3) (by decide)
        have hh : fX1_holds D x2.toNatClampNeg (D.1 103 0) = (if (((Z.1 55 x2.toNatClampNeg) >>> ((Z.1 57 ((0 + (4 * (nI i))).toNatClampNeg)) &&& 31)) &&& 1) = 1 then 1 else 0) := by
          unfold fX1_holds
          rw [d0, ix_0b hr, z57, ec, dR, hS.2.2.2, hk, if_neg (has_of (k := 0) hc'), dF 3 (by decide), hS.1 3 (by decide) (by decide) (by decide), s3, hZ.1 55 (by decide) (by decide) (by decide) (by decide)]
        rw [hh]
        by_cases b1 : (((Z.1 55 x2.toNatClampNeg) >>> ((Z.1 57 ((0 + (4 * (nI i))).toNatClampNeg)) &&& 31)) &&& 1) = 1
        · rw [if_pos b1, if_neg (show ¬ (1 : Int32) = 0 by decide), if_pos b1, ff_0 h hr hx hx2 (fun k hk => (dF _ (by omega)).trans (hS.1 _ (by omega) (by omega) (by omega))) (hZ.1 50 (by decide) (by decide) (by decide) (by decide)) z57 dd]
          by_cases b2 : fX4_isIn Z (fX4_toldOf_0 Z x3 (Z.1 57 (((0 + (4 * (nI i))) + x3).toNatClampNeg))) x4 x5 = 0
          · rw [if_pos b2, if_pos b2]
            exact nxt
          · rw [if_neg b2, if_neg b2, kf_eq dm (by omega), a2, nI_clamp (by omega)]
            refine (ih (i + 1) _ _ (m + 1) ((hD.si (by omega)).si (by omega)) ((hZ.si (by omega)).si (by omega)) ?_ ?_ (by omega) (by omega) (by omega) ?_).tr ((sameC.si (by decide) (by decide)).tr (sameC.si (by decide) (by decide)))
            · exact ow_si_e _ _ _ _
            · rw [ow_si_e, ow_si_ne (by decide), a2]
              exact nI_add m 1
            · intro j hj
              rw [ow_si_ne (show 111 ≠ 0 by decide), ow_si_ne (show 59 ≠ 61 by decide)]
              by_cases ej : j = m
              · subst ej
                rw [ow_si_e, ow_si_e]
              · rw [ow_si_n2 (by omega), ow_si_n2 (by omega)]
                exact d11 j hj
        · rw [if_neg b1, if_pos rfl, if_neg b1]
          exact nxt
      · rw [g1, if_neg g3, g2, if_neg g4]
        exact nxt
theorem sum_0 {st : ow_St} (h : RLs st) {N : Nat} (hN : N ≤ 30) (e1 : st.1 4 0 = nI N) (e2 : st.1 56 0 = nI N) :
    ∀ n i v S Z, GS st S → GZ st Z → GJ S Z → i ≤ N → N < i + n → GR st Z (flX3_sum_0 n i v S) (flX4_sum_0 n i v Z) := by
  intro n
  induction n with
  | zero => intro i v S Z hS hZ hJ hi hn; omega
  | succ n ih =>
    intro i v S Z hS hZ hJ hi hn
    have s4 : S.1 4 = st.1 4 := hS.1 4 (by decide) (by decide) (by decide)
    have y56 : Z.1 56 = st.1 56 := hZ.1 56 (by decide) (by decide) (by decide) (by decide)
    unfold flX3_sum_0 flX4_sum_0
    rw [s4, y56, e1, e2]
    by_cases c : nI N ≤ nI i
    · rw [if_pos c, if_pos c]
      exact ⟨rfl, hS, hZ, hJ, sameC.rf Z⟩
    · rw [if_neg c, if_neg c]
      have hlt : i < N := ow_lt c hi (by omega)
      have hr : i < 30 := by omega
      have hcell := h.2.2.2.2.2.2.2.2.1 i hr
      obtain ⟨⟨q0, q1, q2⟩, ⟨p0, p1, p2, p3⟩, k0, k2, k1⟩ := hcell
      have c1 : ¬ fX2_hasRecord_0 S (nI i) = 0 := by
        unfold fX2_hasRecord_0
        rw [if_neg (nI_pos (by omega)), s4, e1, if_neg c]
        decide
      obtain ⟨D, qd, dF, dR, dd⟩ := drF_0 h.2.2.2.2.2.2.2.2.1 hr (fun c h1 h2 h3 h4 => hS.1 c h3 (by omega) (by omega)) c1
      have z57 : Z.1 57 = st.1 57 := hZ.1 57 (by decide) (by decide) (by decide) (by decide)
      have z56 : Z.1 56 = st.1 56 := hZ.1 56 (by decide) (by decide) (by decide) (by decide)
      have hds := dd
      obtain ⟨d0, d1, d2⟩ := hds
      have wc : fX3_wrongItem_0 D = wgC0 (st.1 57 (4 * i)) (st.1 57 (4 * i + 1)) (st.1 57 (4 * i + 2)) := by
        rw [wC_0, d0, d1, d2]
      have wm : fX4_wrong_0_9 Z (0 + (4 * (nI i))) = wgM0 (st.1 57 (4 * i)) (st.1 57 (4 * i + 1)) (st.1 57 (4 * i + 2)) := by
        rw [wM9_0 hr, z57]
      dsimp only
      rw [qd, wc, wm]
      have hD : GS st D := ⟨fun c h1 h2 h3 => (dF c h1).trans (hS.1 c h1 h2 h3), by rw [dF 0 (by decide)]; exact hS.2.1, by rw [dF 0 (by decide)]; exact hS.2.2.1, dR.trans hS.2.2.2⟩
      have hJD : GJ D Z := ⟨fun k hk => by rw [dF 1 (by decide), dF 2 (by decide)]; exact hJ.1 k hk, by rw [dF 0 (by decide)]; exact hJ.2⟩
      rcases wg_0 (a := st.1 57 (4 * i)) (b := st.1 57 (4 * i + 1)) (c := st.1 57 (4 * i + 2)) k0 k2 with ⟨g1, g2, g3⟩ | ⟨y, g1, g2, g3, g4⟩
      · rw [g1, if_pos rfl, g2, if_pos rfl]
        obtain ⟨c', hc', ec⟩ := vp_in_of (ck k0 g3) (by decide)
        obtain ⟨j1, j2, j3⟩ := hJD.1 0 (by decide)
        rw [d0, d1, ec, askT_0]
        have r0 : ∀ (z : Int32), (ow_si Z 52 0 z).1 57 ((0 + (4 * (nI i))).toNatClampNeg) = nI c' := fun z => by rw [ow_si_ne (by decide), ix_0b hr, z57, ec]
        have r1 : ∀ (z : Int32), (ow_si Z 52 0 z).1 57 (((0 + (4 * (nI i))) + 1).toNatClampNeg) = (st.1 57 (4 * i + 1)) := fun z => by rw [ow_si_ne (by decide), ix_01 hr, z57]
        rcases ask_k2 (k := 0) (by decide) hc' ((st.1 57 (4 * i + 1)).toInt64) j1 j2 j3 with ⟨val, e, ev, eb, ew⟩ | ⟨why, m1, m2, m3, e, eb, ew⟩ | ⟨e, eb⟩ | ⟨e, eb⟩
        · have eb0 : fX4_begin Z 0 = (0, ow_si Z 52 0 1) := eb Z rfl rfl
          have ew0 : ∀ s, fX4_works s 0 (nI c') ((st.1 57 (4 * i + 1)).toInt64) = (1, ow_sl s 2 val) := ew
          rw [e, eb0]
          dsimp only
          rw [if_neg (by decide), if_neg (by decide), if_pos rfl, if_pos rfl, r0, r1, ew0]
          dsimp only
          rw [if_pos rfl, ow_sl_e, ow_si_ne (show 103 ≠ 1 by decide), d0, d1, ec, valT_0, ev]
          refine (ih (i + 1) _ _ _ (hD.si (by omega)) ((hZ.si (by omega)).sl) (hJD.set (t := 0) (v := 1) (Or.inl rfl) rfl (ow_si_ne (by decide)) rfl (show (ow_si Z 52 0 1).1 53 = Z.1 53 from ow_si_ne (by decide)) ?_) (by omega) (by omega)).tr ((sameC.si (by decide) (by decide)).tr sameC.sl)
          show (ow_si D 1 0 1).1 0 0 = (ow_si Z 52 0 1).1 61 0
          rw [ow_si_ne (by decide), ow_si_ne (by decide)]
          exact hJD.2
        · have eb0 : fX4_begin Z 0 = (0, ow_si Z 52 0 1) := eb Z rfl rfl
          have ew0 : ∀ s : ow_St, fX4_works s 0 (nI c') ((st.1 57 (4 * i + 1)).toInt64) = (why, ow_si s 61 0 (s.1 61 0 + 1)) := ew
          rw [e, eb0]
          dsimp only
          rw [if_neg m2, if_neg m3, if_neg m1, if_pos rfl, r0, r1, ew0]
          dsimp only
          rw [if_neg m1, Int64.add_zero]
          refine (ih (i + 1) _ _ _ ((hD.si (by omega)).si (by omega)) ((hZ.si (by omega)).si (by omega)) (hJD.set (t := 0) (v := 1) (Or.inl rfl) (ow_si_ne (by decide)) ?_ (ow_si_ne (by decide)) ?_ ?_) (by omega) (by omega)).tr ((sameC.si (by decide) (by decide)).tr (sameC.si (by decide) (by decide)))
          · rw [ow_si_ne (by decide), ow_si_ne (by decide)]
          · rw [ow_si_ne (by decide), ow_si_ne (by decide)]
          · rw [ow_si_e, ow_si_e, ow_si_ne (by decide), hJD.2]
        · have eb0 : fX4_begin Z 0 = ((-8), ow_si Z 52 0 2) := eb Z rfl rfl
          rw [e, eb0]
          dsimp only
          rw [if_pos rfl, if_neg (by decide)]
          refine ⟨rfl, hD.si (by omega), hZ.si (by omega), hJD.set (t := 0) (v := 2) (Or.inr rfl) rfl (ow_si_ne (by decide)) rfl (ow_si_ne (by decide)) ?_, sameC.si (by decide) (by decide)⟩
          rw [ow_si_ne (by decide), ow_si_ne (by decide)]
          exact hJD.2
        · have eb0 : fX4_begin Z 0 = ((-9), Z) := eb Z rfl rfl
          rw [e, eb0]
          dsimp only
          rw [if_neg (by decide), if_pos rfl, if_neg (by decide)]
          exact ⟨rfl, hD, hZ, hJD, sameC.rf Z⟩
      · rw [g1, if_neg g3, g2, if_neg g4]
        exact ih (i + 1) v D Z hD hZ hJD (by omega) (by omega)
theorem sumS_0 {st : ow_St} (h : RLs st) : GS st (fX3_sum_0 st).2 := by
  obtain ⟨e, n, hn, e2⟩ := h.2.2.2.2.2.2.2.1 0 (by decide)
  have e1 := e.trans e2
  unfold fX3_sum_0
  rw [e1, nI_clamp (by omega)]
  exact (sum_0 h hn e1 e2 (n + 1) 0 0 st st ⟨fun _ _ _ _ => rfl, rfl, rfl, rfl⟩ ⟨fun _ _ _ _ _ => rfl, rfl, rfl, rfl, rfl⟩ ⟨fun k hk => h.2.2.2.1 k hk, h.2.2.2.2.1.2.1⟩ (Nat.zero_le _) (by omega)).2.1
theorem mk_sum_0 {st : ow_St} (h : RLs st)  : sameM st (fX3_sum_0 st).2 := by
  have q := sumS_0 h
  exact ⟨fun c h1 h2 => q.1 c (by omega) (by omega) (by omega), by rw [q.2.2.2], by rw [q.2.2.2]⟩
theorem eq_sum_0 {st : ow_St} (h : RLs st)  : (fX3_sum_0 st).1 = (fX4_sum_0 (fX3_sum_0 st).2 ).1 ∧ RLs (fX4_sum_0 (fX3_sum_0 st).2 ).2 := by
  have q := sumS_0 h
  obtain ⟨e, n, hn, e2⟩ := h.2.2.2.2.2.2.2.1 0 (by decide)
  have e1 := e.trans e2
  obtain ⟨C, hC⟩ : ∃ C, (fX3_sum_0 st).2 = C := ⟨_, rfl⟩
  rw [hC] at q ⊢
  have g := sum_0 h hn e1 e2 (n + 1) 0 0 st C ⟨fun _ _ _ _ => rfl, rfl, rfl, rfl⟩ ⟨fun c h1 h2 h3 h4 => q.1 c (by omega) (by omega) (by omega), by rw [q.1 61 (by decide) (by decide) (by decide)], by rw [q.1 61 (by decide) (by decide) (by decide)], by rw [q.1 61 (by decide) (by decide) (by decide)], by rw [q.2.2.2]⟩ ⟨fun k hk => by rw [q.1 52 (by decide) (by decide) (by decide), q.1 53 (by decide) (by decide) (by decide)]; exact h.2.2.2.1 k hk, by rw [q.1 61 (by decide) (by decide) (by decide)]; exact h.2.2.2.2.1.2.1⟩ (Nat.zero_le _) (by omega)
  have f3 : fX3_sum_0 st = flX3_sum_0 (n + 1) 0 0 st := by
    unfold fX3_sum_0
    rw [e1, nI_clamp (by omega)]
  have f4 : fX4_sum_0 C = flX4_sum_0 (n + 1) 0 0 C := by
    unfold fX4_sum_0
    rw [q.1 56 (by decide) (by decide) (by decide), e2, nI_clamp (by omega)]
  rw [← f3, ← f4] at g
  obtain ⟨g1, g2, g3, g4, g5⟩ := g
  rw [hC] at g4
  exact ⟨g1, RL_sum h q g3 g5 g4⟩
theorem fi_0n {st : ow_St} {x2 x3 x4 x5 : Int32} (c : (x2 < 0 ∨ 10 ≤ x2) ∨ x3 = 0 ∨ fX4_isIn st x3 0 2 = 0) : fX3_filter_0 st x2 x3 x4 x5 = ((-1), st) ∧ fX4_filter_0 st x2 x3 x4 x5 = ((-1), st) := by
  unfold fX3_filter_0 fX4_filter_0
  rw [hi_0 (z := st)]
  by_cases hs : x2 < 0 ∨ 10 ≤ x2
  · rw [if_pos hs, if_pos (isS_y.mpr hs)]
    exact ⟨rfl, rfl⟩
  · rw [if_neg hs, if_neg (fun q => hs (isS_y.mp q))]
    by_cases h0 : x3 = 0
    · subst h0
      rw [if_pos rfl, if_pos (by unfold fX4_isIn; decide)]
      exact ⟨rfl, rfl⟩
    · rw [if_neg h0, isIn_1 h0]
      rcases c with c | c | c
      · exact absurd c hs
      · exact absurd c h0
      · rw [if_pos c, if_pos c]
        exact ⟨rfl, rfl⟩
theorem fi_0k {st : ow_St} (h : RLs st) {x2 x3 x4 x5 : Int32} (hs : ¬ (x2 < 0 ∨ 10 ≤ x2)) (h0 : ¬ x3 = 0) (h2 : ¬ fX4_isIn st x3 0 2 = 0) (hk : ¬ st.2.2 (x2.toNatClampNeg + 1) = 0) : fX3_filter_0 st x2 x3 x4 x5 = ((-3), st) ∧ fX4_filter_0 st x2 x3 x4 x5 = ((-3), st) := by
  obtain ⟨s1, s2, s3, s5⟩ := h.2.2.2.2.2.2.1 _ (setN_b hs)
  unfold fX3_filter_0 fX4_filter_0
  rw [hi_0 (z := st), if_neg hs, if_neg (fun q => hs (isS_y.mp q)), if_neg h0, isIn_1 h0, if_neg h2, if_neg h2, if_neg hk, if_neg]
  · exact ⟨rfl, rfl⟩
  · rw [s2]
    rcases k3 s1 with ek | ek | ek
    · rw [ek] at hk ⊢
      first | exact absurd rfl hk | decide
    · rw [ek] at hk ⊢
      first | exact absurd rfl hk | decide
    · rw [ek] at hk ⊢
      first | exact absurd rfl hk | decide
theorem fi_0C {st : ow_St} {x2 x3 x4 x5 : Int32} (hs : ¬ (x2 < 0 ∨ 10 ≤ x2)) (h0 : ¬ x3 = 0) (h2 : ¬ fX4_isIn st x3 0 2 = 0) (hk : st.2.2 (x2.toNatClampNeg + 1) = 0) {n : Nat} (hn : n ≤ 30) (e1 : st.1 4 0 = nI n) : fX3_filter_0 st x2 x3 x4 x5 = flX3_filter_0 x2 x3 x4 x5 (n + 1) 0 (ow_si st 0 2 0) := by
  unfold fX3_filter_0
  rw [hi_0 (z := st), if_neg hs, if_neg h0, if_neg h2, if_pos hk, e1, nI_clamp (by omega)]
theorem fi_0M {z : ow_St} {x2 x3 x4 x5 : Int32} (hs : ¬ (x2 < 0 ∨ 10 ≤ x2)) (h0 : ¬ x3 = 0) (h2 : ¬ fX4_isIn z x3 0 2 = 0) (hk : z.1 54 x2.toNatClampNeg = 0) {n : Nat} (hn : n ≤ 30) (e1 : z.1 56 0 = nI n) : fX4_filter_0 z x2 x3 x4 x5 = flX4_filter_0 x2 x3 x4 x5 (n + 1) 0 (ow_si z 61 3 0) := by
  unfold fX4_filter_0
  rw [isIn_1 h0, if_neg (fun q => hs (isS_y.mp q)), if_neg h2, if_pos hk, e1, nI_clamp (by omega)]
theorem filS_0 {st : ow_St} (h : RLs st) {x2 x3 x4 x5 : Int32} (hs : ¬ (x2 < 0 ∨ 10 ≤ x2)) (h0 : ¬ x3 = 0) (h2 : ¬ fX4_isIn st x3 0 2 = 0) (hk : st.2.2 (x2.toNatClampNeg + 1) = 0) {n : Nat} (hn : n ≤ 30) (e1 : st.1 4 0 = nI n) (e2 : st.1 56 0 = nI n) {Z : ow_St} (hZ : FZ st Z) (z3 : Z.1 61 3 = 0) (z59 : Z.1 59 = st.1 59) : FR st Z (flX3_filter_0 x2 x3 x4 x5 (n + 1) 0 (ow_si st 0 2 0)) (flX4_filter_0 x2 x3 x4 x5 (n + 1) 0 Z) :=
  fil_0 h hs hk h0 h2 hn e1 e2 (n + 1) 0 _ _ 0 (FS.si ⟨fun _ _ _ _ => rfl, rfl, rfl, rfl⟩ (by omega)) hZ (ow_si_e st 0 2 0) z3 (Nat.le_refl 0) (Nat.zero_le _) (by omega) (fun j hj => by rw [ow_si_ne (by decide), z59]; exact h.2.2.2.2.2.1.2.2 j hj)
theorem FZ_0 (st : ow_St) : FZ st (ow_si st 61 3 0) := FZ.si ⟨fun _ _ _ _ _ => rfl, rfl, rfl, rfl, rfl⟩ (by omega)

theorem mk_filter_0 {st : ow_St} (h : RLs st) (x2 x3 x4 x5 : Int32) : sameM st (fX3_filter_0 st x2 x3 x4 x5).2 := by
  by_cases c : (x2 < 0 ∨ 10 ≤ x2) ∨ x3 = 0 ∨ fX4_isIn st x3 0 2 = 0
  · obtain ⟨f1, f2⟩ := fi_0n (x4 := x4) (x5 := x5) c
    rw [f1]
    exact same_rf st
  · obtain ⟨hs, c2⟩ := not_or.mp c
    obtain ⟨h0, h2⟩ := not_or.mp c2
    obtain ⟨e, n, hn, e2⟩ := h.2.2.2.2.2.2.2.1 0 (by decide)
    by_cases hk : st.2.2 (x2.toNatClampNeg + 1) = 0
    · have f1 := fi_0C (x4 := x4) (x5 := x5) hs h0 h2 hk hn (e.trans e2)
      obtain ⟨m, -, -, -, q, -, -, -, -, -⟩ := filS_0 (x4 := x4) (x5 := x5) h hs h0 h2 hk hn (e.trans e2) e2 (FZ_0 st) (ow_si_e st 61 3 0) (ow_si_ne (by decide))
      rw [← f1] at q
      exact ⟨fun c h1 h2 => q.1 c (by omega) (by omega) (by omega), by rw [q.2.2.2], by rw [q.2.2.2]⟩
    · obtain ⟨f1, f2⟩ := fi_0k (x4 := x4) (x5 := x5) h hs h0 h2 hk
      rw [f1]
      exact same_rf st
theorem eq_filter_0 {st : ow_St} (h : RLs st) (x2 x3 x4 x5 : Int32) : (fX3_filter_0 st x2 x3 x4 x5).1 = (fX4_filter_0 (fX3_filter_0 st x2 x3 x4 x5).2 x2 x3 x4 x5).1 ∧ RLs (fX4_filter_0 (fX3_filter_0 st x2 x3 x4 x5).2 x2 x3 x4 x5).2 := by
  by_cases c : (x2 < 0 ∨ 10 ≤ x2) ∨ x3 = 0 ∨ fX4_isIn st x3 0 2 = 0
  · obtain ⟨f1, f2⟩ := fi_0n (x4 := x4) (x5 := x5) c
    rw [f1]
    rw [f2]
    exact ⟨rfl, h⟩
  · obtain ⟨hs, c2⟩ := not_or.mp c
    obtain ⟨h0, h2⟩ := not_or.mp c2
    obtain ⟨e, n, hn, e2⟩ := h.2.2.2.2.2.2.2.1 0 (by decide)
    by_cases hk : st.2.2 (x2.toNatClampNeg + 1) = 0
    · have f1 := fi_0C (x4 := x4) (x5 := x5) hs h0 h2 hk hn (e.trans e2)
      obtain ⟨m, -, -, -, q, -, -, -, -, -⟩ := filS_0 (x4 := x4) (x5 := x5) h hs h0 h2 hk hn (e.trans e2) e2 (FZ_0 st) (ow_si_e st 61 3 0) (ow_si_ne (by decide))
      rw [← f1] at q
      obtain ⟨C, hC⟩ : ∃ C, (fX3_filter_0 st x2 x3 x4 x5).2 = C := ⟨_, rfl⟩
      rw [hC] at q ⊢
      obtain ⟨s1, s2, s3, s5⟩ := h.2.2.2.2.2.2.1 _ (setN_b hs)
      have f2 : fX4_filter_0 C x2 x3 x4 x5 = flX4_filter_0 x2 x3 x4 x5 (n + 1) 0 (ow_si C 61 3 0) := fi_0M (z := C) hs h0 (by exact h2) (by rw [q.1 54 (by decide) (by decide) (by decide), s2, hk]; rfl) hn (by rw [q.1 56 (by decide) (by decide) (by decide)]; exact e2)
      have hZ : FZ st (ow_si C 61 3 0) := FZ.si ⟨fun c h1 h2 h3 h4 => q.1 c (by omega) (by omega) (by omega), by rw [q.1 61 (by decide) (by decide) (by decide)], by rw [q.1 61 (by decide) (by decide) (by decide)], by rw [q.1 61 (by decide) (by decide) (by decide)], by rw [q.2.2.2]⟩ (by omega)
      obtain ⟨m, r1, r2, r3, r4, r5, r6, r7, r8, r9⟩ := filS_0 (x4 := x4) (x5 := x5) h hs h0 h2 hk hn (e.trans e2) e2 hZ (ow_si_e C 61 3 0) ((ow_si_ne (by decide)).trans (q.1 59 (by decide) (by decide) (by decide)))
      rw [← f1] at r2 r6 r8
      rw [← f2] at r3 r5 r7 r8 r9
      rw [hC] at r6 r8
      exact ⟨r2.trans r3.symm, RL_fil h q r5 ((sameC.si (by decide) (by decide)).tr r9) ⟨r6.trans r7.symm, ⟨m, r1, r7⟩, r8⟩⟩
    · obtain ⟨f1, f2⟩ := fi_0k (x4 := x4) (x5 := x5) h hs h0 h2 hk
      rw [f1]
      rw [f2]
      exact ⟨rfl, h⟩
theorem drF_1 {st S : ow_St} (h : rl_cel st) {i : Nat} (hr : i < 30) (hc : ∀ c, 102 ≤ c → c ≤ 130 → c ≠ 103 → c ≠ 111 → S.1 c = st.1 c) (c1 : ¬ fX2_hasRecord_1 S (nI i) = 0) : ∃ D, fX3_draftOf_1 S (nI i) = D ∧ (∀ c, c ≠ 103 → D.1 c = S.1 c) ∧ D.2 = S.2 ∧ D.1 103 0 = st.1 57 (120 + 4 * i) ∧ D.1 103 1 = st.1 57 (120 + 4 * i + 1) ∧ D.1 103 2 = st.1 57 (120 + 4 * i + 2) ∧ D.1 103 3 = st.1 57 (120 + 4 * i + 3) := by
  obtain ⟨⟨q0, q1, q2⟩, ⟨p0, p1, p2, p3⟩, k0, k2, k1⟩ := h i hr
  refine ⟨_, dr_1 hr ((congrFun (hc 118 (by decide) (by decide) (by decide) (by decide)) i).trans p0) ((congrFun (hc 122 (by decide) (by decide) (by decide) (by decide)) i).trans p1) ((congrFun (hc 126 (by decide) (by decide) (by decide) (by decide)) i).trans p2) ((congrFun (hc 130 (by decide) (by decide) (by decide) (by decide)) i).trans p3) c1, fun c hc => ?_, rfl, ?_, ?_, ?_, ?_⟩
  · simp (disch := omega) only [ow_si_ne]
  all_goals (simp (disch := omega) only [ow_si_ne, ow_si_n2, ow_si_e])
theorem ff_1 {st D Z : ow_St} (h : RLs st) {i : Nat} (hr : i < 30) {x3 x4 x5 : Int32} (hx : ¬ x3 = 0) (hx2 : ¬ fX4_isIn st x3 0 3 = 0) (dF : ∀ k, k < 3 → D.1 (101 + 4 * k) = st.1 (101 + 4 * k)) (z50 : Z.1 50 = st.1 50) (z57 : Z.1 57 = st.1 57) (hd : D.1 103 0 = st.1 57 (120 + 4 * i) ∧ D.1 103 1 = st.1 57 (120 + 4 * i + 1) ∧ D.1 103 2 = st.1 57 (120 + 4 * i + 2) ∧ D.1 103 3 = st.1 57 (120 + 4 * i + 3)) : fX3_isFromTo D (fX3_fromCell_1 D x3 (D.1 103 x3.toNatClampNeg)) x4 x5 = fX4_isIn Z (fX4_toldOf_1 Z x3 (Z.1 57 (((120 + (4 * (nI i))) + x3).toNatClampNeg))) x4 x5 := by
  obtain ⟨⟨q0, q1, q2⟩, ⟨p0, p1, p2, p3⟩, k0, k2, k1⟩ := h.2.2.2.2.2.2.2.2.1 i hr
  obtain ⟨d0, d1, d2, d3⟩ := hd
  have e1 : ∀ v, fX3_fromCell_1 D x3 v = fX3_fromCell_1 st x3 v := fun v => by
    unfold fX3_fromCell_1 fX0_codeOf fX0_has
    rw [dF 1 (by decide)]
  have e2 : ∀ v, fX4_toldOf_1 Z x3 v = fX4_toldOf_1 st x3 v := fun v => by
    unfold fX4_toldOf_1 fX4_codeNow fX4_kindOf_1
    rw [z50]
  rw [e1, e2, z57]
  rcases in4 (le_in (n := 3) rfl (by decide) (isIn_t hx2)) with rfl | rfl | rfl | rfl
  · exact absurd rfl hx
  · rw [ix_11 hr, show (1 : Int32).toNatClampNeg = 1 from rfl, d1, fc_1 h.2.1 (fun q => absurd q (by decide))]
    rfl
  · rw [ix_12 hr, show (2 : Int32).toNatClampNeg = 2 from rfl, d2, fc_1 h.2.1 (fun q => absurd q (by decide))]
    rfl
  · rw [ix_13 hr, show (3 : Int32).toNatClampNeg = 3 from rfl, d3, fc_1 h.2.1 (fun q => absurd q (by decide))]
    rfl
theorem fil_1 {st : ow_St} (h : RLs st) {x2 x3 x4 x5 : Int32} (hs : ¬ (x2 < 0 ∨ 10 ≤ x2)) (hk : st.2.2 (x2.toNatClampNeg + 1) = 1) (hx : ¬ x3 = 0) (hx2 : ¬ fX4_isIn st x3 0 3 = 0) {N : Nat} (hN : N ≤ 30) (e1 : st.1 4 1 = nI N) (e2 : st.1 56 1 = nI N) :
    ∀ n i S Z m, FS st S → FZ st Z → S.1 0 2 = nI m → Z.1 61 3 = nI m → m ≤ i → i ≤ N → N < i + n → (∀ j, j < 30 → S.1 111 j = Z.1 59 j) → FR st Z (flX3_filter_1 x2 x3 x4 x5 n i S) (flX4_filter_1 x2 x3 x4 x5 n i Z) := by
  obtain ⟨s1, s2, s3, s5⟩ := h.2.2.2.2.2.2.1 _ (setN_b hs)
  intro n
  induction n with
  | zero => intro i S Z m hS hZ a1 a2 hm hi hn a3; omega
  | succ n ih =>
    intro i S Z m hS hZ a1 a2 hm hi hn a3
    have s4 : S.1 4 = st.1 4 := hS.1 4 (by decide) (by decide) (by decide)
    have y56 : Z.1 56 = st.1 56 := hZ.1 56 (by decide) (by decide) (by decide) (by decide)
    unfold flX3_filter_1 flX4_filter_1
    rw [s4, y56, e1, e2]
    by_cases c : nI N ≤ nI i
    · rw [if_pos c, if_pos c]
      exact ⟨m, by omega, a1, a2, hS, hZ, a1, a2, a3, sameC.rf Z⟩
    · rw [if_neg c, if_neg c]
      have hlt : i < N := ow_lt c hi (by omega)
      have hr : i < 30 := by omega
      have hcell := h.2.2.2.2.2.2.2.2.1 i hr
      obtain ⟨⟨q0, q1, q2⟩, ⟨p0, p1, p2, p3⟩, k0, k2, k1⟩ := hcell
      have c1 : ¬ fX2_hasRecord_1 S (nI i) = 0 := by
        unfold fX2_hasRecord_1
        rw [if_neg (nI_pos (by omega)), s4, e1, if_neg c]
        decide
      obtain ⟨D, qd, dF, dR, dd⟩ := drF_1 h.2.2.2.2.2.2.2.2.1 hr (fun c h1 h2 h3 h4 => hS.1 c h3 h4 (by omega)) c1
      have z57 : Z.1 57 = st.1 57 := hZ.1 57 (by decide) (by decide) (by decide) (by decide)
      have z56 : Z.1 56 = st.1 56 := hZ.1 56 (by decide) (by decide) (by decide) (by decide)
      have hds := dd
      obtain ⟨d0, d1, d2, d3⟩ := hds
      have wc : fX3_wrongItem_1 D = wgC1 (st.1 56 0 - 1) (st.1 57 (120 + 4 * i)) (st.1 57 (120 + 4 * i + 1)) (st.1 57 (120 + 4 * i + 2)) (st.1 57 (120 + 4 * i + 3)) := by
        rw [wC_1, d0, d1, d2, d3, dF 4 (by decide), s4, (h.2.2.2.2.2.2.2.1 0 (by decide)).1]
      have wm : fX4_wrong_1_9 Z (120 + (4 * (nI i))) = wgM1 (st.1 56 0 - 1) (st.1 57 (120 + 4 * i)) (st.1 57 (120 + 4 * i + 1)) (st.1 57 (120 + 4 * i + 2)) (st.1 57 (120 + 4 * i + 3)) := by
        rw [wM9_1 hr, z57, z56]
      dsimp only
      rw [qd, wc, wm]
      have hD : FS st D := ⟨fun c h1 h2 h3 => (dF c h1).trans (hS.1 c h1 h2 h3), by rw [dF 0 (by decide)]; exact hS.2.1, by rw [dF 0 (by decide)]; exact hS.2.2.1, dR.trans hS.2.2.2⟩
      have dm : D.1 0 2 = nI m := by rw [dF 0 (by decide)]; exact a1
      have d11 : ∀ j, j < 30 → D.1 111 j = Z.1 59 j := fun j hj => by rw [dF 111 (by decide)]; exact a3 j hj
      have nxt := ih (i + 1) D Z m hD hZ dm a2 (by omega) (by omega) (by omega) d11
      rcases wg_1 (z := st.1 56 0 - 1) (a := st.1 57 (120 + 4 * i)) (b := st.1 57 (120 + 4 * i + 1)) (c := st.1 57 (120 + 4 * i + 2)) (d := st.1 57 (120 + 4 * i + 3)) k1 with ⟨g1, g2, g3⟩ | ⟨y, g1, g2, g3, g4⟩
      · rw [g1, if_pos rfl, g2, if_pos rfl]
        obtain ⟨c', hc', ec⟩ := vp_in_of (ck k1 g3) (by decide)
        have hh : fX1_holds D x2.toNatClampNeg (D.1 103 0) = (if (((Z.1 55 x2.toNatClampNeg) >>> ((Z.1 57 ((120 + (4 * (nI i))).toNatClampNeg)) &&& 31)) &&& 1) = 1 then 1 else 0) := by
          unfold fX1_holds
          rw [d0, ix_1b hr, z57, ec, dR, hS.2.2.2, hk, if_neg (has_of (k := 1) hc'), dF 3 (by decide), hS.1 3 (by decide) (by decide) (by decide), s3, hZ.1 55 (by decide) (by decide) (by decide) (by decide)]
        rw [hh]
        by_cases b1 : (((Z.1 55 x2.toNatClampNeg) >>> ((Z.1 57 ((120 + (4 * (nI i))).toNatClampNeg)) &&& 31)) &&& 1) = 1
        · rw [if_pos b1, if_neg (show ¬ (1 : Int32) = 0 by decide), if_pos b1, ff_1 h hr hx hx2 (fun k hk => (dF _ (by omega)).trans (hS.1 _ (by omega) (by omega) (by omega))) (hZ.1 50 (by decide) (by decide) (by decide) (by decide)) z57 dd]
          by_cases b2 : fX4_isIn Z (fX4_toldOf_1 Z x3 (Z.1 57 (((120 + (4 * (nI i))) + x3).toNatClampNeg))) x4 x5 = 0
          · rw [if_pos b2, if_pos b2]
            exact nxt
          · rw [if_neg b2, if_neg b2, kf_eq dm (by omega), a2, nI_clamp (by omega)]
            refine (ih (i + 1) _ _ (m + 1) ((hD.si (by omega)).si (by omega)) ((hZ.si (by omega)).si (by omega)) ?_ ?_ (by omega) (by omega) (by omega) ?_).tr ((sameC.si (by decide) (by decide)).tr (sameC.si (by decide) (by decide)))
            · exact ow_si_e _ _ _ _
            · rw [ow_si_e, ow_si_ne (by decide), a2]
              exact nI_add m 1
            · intro j hj
              rw [ow_si_ne (show 111 ≠ 0 by decide), ow_si_ne (show 59 ≠ 61 by decide)]
              by_cases ej : j = m
              · subst ej
                rw [ow_si_e, ow_si_e]
              · rw [ow_si_n2 (by omega), ow_si_n2 (by omega)]
                exact d11 j hj
        · rw [if_neg b1, if_pos rfl, if_neg b1]
          exact nxt
      · rw [g1, if_neg g3, g2, if_neg g4]
        exact nxt
theorem sum_1 {st : ow_St} (h : RLs st) {N : Nat} (hN : N ≤ 30) (e1 : st.1 4 1 = nI N) (e2 : st.1 56 1 = nI N) :
    ∀ n i v S Z, GS st S → GZ st Z → GJ S Z → i ≤ N → N < i + n → GR st Z (flX3_sum_1 n i v S) (flX4_sum_1 n i v Z) := by
  intro n
  induction n with
  | zero => intro i v S Z hS hZ hJ hi hn; omega
  | succ n ih =>
    intro i v S Z hS hZ hJ hi hn
    have s4 : S.1 4 = st.1 4 := hS.1 4 (by decide) (by decide) (by decide)
    have y56 : Z.1 56 = st.1 56 := hZ.1 56 (by decide) (by decide) (by decide) (by decide)
    unfold flX3_sum_1 flX4_sum_1
    rw [s4, y56, e1, e2]
    by_cases c : nI N ≤ nI i
    · rw [if_pos c, if_pos c]
      exact ⟨rfl, hS, hZ, hJ, sameC.rf Z⟩
    · rw [if_neg c, if_neg c]
      have hlt : i < N := ow_lt c hi (by omega)
      have hr : i < 30 := by omega
      have hcell := h.2.2.2.2.2.2.2.2.1 i hr
      obtain ⟨⟨q0, q1, q2⟩, ⟨p0, p1, p2, p3⟩, k0, k2, k1⟩ := hcell
      have c1 : ¬ fX2_hasRecord_1 S (nI i) = 0 := by
        unfold fX2_hasRecord_1
        rw [if_neg (nI_pos (by omega)), s4, e1, if_neg c]
        decide
      obtain ⟨D, qd, dF, dR, dd⟩ := drF_1 h.2.2.2.2.2.2.2.2.1 hr (fun c h1 h2 h3 h4 => hS.1 c h3 (by omega) (by omega)) c1
      have z57 : Z.1 57 = st.1 57 := hZ.1 57 (by decide) (by decide) (by decide) (by decide)
      have z56 : Z.1 56 = st.1 56 := hZ.1 56 (by decide) (by decide) (by decide) (by decide)
      have hds := dd
      obtain ⟨d0, d1, d2, d3⟩ := hds
      have wc : fX3_wrongItem_1 D = wgC1 (st.1 56 0 - 1) (st.1 57 (120 + 4 * i)) (st.1 57 (120 + 4 * i + 1)) (st.1 57 (120 + 4 * i + 2)) (st.1 57 (120 + 4 * i + 3)) := by
        rw [wC_1, d0, d1, d2, d3, dF 4 (by decide), s4, (h.2.2.2.2.2.2.2.1 0 (by decide)).1]
      have wm : fX4_wrong_1_9 Z (120 + (4 * (nI i))) = wgM1 (st.1 56 0 - 1) (st.1 57 (120 + 4 * i)) (st.1 57 (120 + 4 * i + 1)) (st.1 57 (120 + 4 * i + 2)) (st.1 57 (120 + 4 * i + 3)) := by
        rw [wM9_1 hr, z57, z56]
      dsimp only
      rw [qd, wc, wm]
      have hD : GS st D := ⟨fun c h1 h2 h3 => (dF c h1).trans (hS.1 c h1 h2 h3), by rw [dF 0 (by decide)]; exact hS.2.1, by rw [dF 0 (by decide)]; exact hS.2.2.1, dR.trans hS.2.2.2⟩
      have hJD : GJ D Z := ⟨fun k hk => by rw [dF 1 (by decide), dF 2 (by decide)]; exact hJ.1 k hk, by rw [dF 0 (by decide)]; exact hJ.2⟩
      rcases wg_1 (z := st.1 56 0 - 1) (a := st.1 57 (120 + 4 * i)) (b := st.1 57 (120 + 4 * i + 1)) (c := st.1 57 (120 + 4 * i + 2)) (d := st.1 57 (120 + 4 * i + 3)) k1 with ⟨g1, g2, g3⟩ | ⟨y, g1, g2, g3, g4⟩
      · rw [g1, if_pos rfl, g2, if_pos rfl]
        obtain ⟨c', hc', ec⟩ := vp_in_of (ck k1 g3) (by decide)
        obtain ⟨j1, j2, j3⟩ := hJD.1 1 (by decide)
        rw [d0, d3, ec, askT_1]
        have r0 : ∀ (z : Int32), (ow_si Z 52 1 z).1 57 ((120 + (4 * (nI i))).toNatClampNeg) = nI c' := fun z => by rw [ow_si_ne (by decide), ix_1b hr, z57, ec]
        have r1 : ∀ (z : Int32), (ow_si Z 52 1 z).1 57 (((120 + (4 * (nI i))) + 3).toNatClampNeg) = (st.1 57 (120 + 4 * i + 3)) := fun z => by rw [ow_si_ne (by decide), ix_13 hr, z57]
        rcases ask_k2 (k := 1) (by decide) hc' ((st.1 57 (120 + 4 * i + 3)).toInt64) j1 j2 j3 with ⟨val, e, ev, eb, ew⟩ | ⟨why, m1, m2, m3, e, eb, ew⟩ | ⟨e, eb⟩ | ⟨e, eb⟩
        · have eb0 : fX4_begin Z 1 = (0, ow_si Z 52 1 1) := eb Z rfl rfl
          have ew0 : ∀ s, fX4_works s 1 (nI c') ((st.1 57 (120 + 4 * i + 3)).toInt64) = (1, ow_sl s 2 val) := ew
          rw [e, eb0]
          dsimp only
          rw [if_neg (by decide), if_neg (by decide), if_pos rfl, if_pos rfl, r0, r1, ew0]
          dsimp only
          rw [if_pos rfl, ow_sl_e, ow_si_ne (show 103 ≠ 1 by decide), d0, d3, ec, valT_1, ev]
          refine (ih (i + 1) _ _ _ (hD.si (by omega)) ((hZ.si (by omega)).sl) (hJD.set (t := 1) (v := 1) (Or.inl rfl) rfl (ow_si_ne (by decide)) rfl (show (ow_si Z 52 1 1).1 53 = Z.1 53 from ow_si_ne (by decide)) ?_) (by omega) (by omega)).tr ((sameC.si (by decide) (by decide)).tr sameC.sl)
          show (ow_si D 1 1 1).1 0 0 = (ow_si Z 52 1 1).1 61 0
          rw [ow_si_ne (by decide), ow_si_ne (by decide)]
          exact hJD.2
        · have eb0 : fX4_begin Z 1 = (0, ow_si Z 52 1 1) := eb Z rfl rfl
          have ew0 : ∀ s : ow_St, fX4_works s 1 (nI c') ((st.1 57 (120 + 4 * i + 3)).toInt64) = (why, ow_si s 61 0 (s.1 61 0 + 1)) := ew
          rw [e, eb0]
          dsimp only
          rw [if_neg m2, if_neg m3, if_neg m1, if_pos rfl, r0, r1, ew0]
          dsimp only
          rw [if_neg m1, Int64.add_zero]
          refine (ih (i + 1) _ _ _ ((hD.si (by omega)).si (by omega)) ((hZ.si (by omega)).si (by omega)) (hJD.set (t := 1) (v := 1) (Or.inl rfl) (ow_si_ne (by decide)) ?_ (ow_si_ne (by decide)) ?_ ?_) (by omega) (by omega)).tr ((sameC.si (by decide) (by decide)).tr (sameC.si (by decide) (by decide)))
          · rw [ow_si_ne (by decide), ow_si_ne (by decide)]
          · rw [ow_si_ne (by decide), ow_si_ne (by decide)]
          · rw [ow_si_e, ow_si_e, ow_si_ne (by decide), hJD.2]
        · have eb0 : fX4_begin Z 1 = ((-8), ow_si Z 52 1 2) := eb Z rfl rfl
          rw [e, eb0]
          dsimp only
          rw [if_pos rfl, if_neg (by decide)]
          refine ⟨rfl, hD.si (by omega), hZ.si (by omega), hJD.set (t := 1) (v := 2) (Or.inr rfl) rfl (ow_si_ne (by decide)) rfl (ow_si_ne (by decide)) ?_, sameC.si (by decide) (by decide)⟩
          rw [ow_si_ne (by decide), ow_si_ne (by decide)]
          exact hJD.2
        · have eb0 : fX4_begin Z 1 = ((-9), Z) := eb Z rfl rfl
          rw [e, eb0]
          dsimp only
          rw [if_neg (by decide), if_pos rfl, if_neg (by decide)]
          exact ⟨rfl, hD, hZ, hJD, sameC.rf Z⟩
      · rw [g1, if_neg g3, g2, if_neg g4]
        exact ih (i + 1) v D Z hD hZ hJD (by omega) (by omega)
theorem sumS_1 {st : ow_St} (h : RLs st) : GS st (fX3_sum_1 st).2 := by
  obtain ⟨e, n, hn, e2⟩ := h.2.2.2.2.2.2.2.1 1 (by decide)
  have e1 := e.trans e2
  unfold fX3_sum_1
  rw [e1, nI_clamp (by omega)]
  exact (sum_1 h hn e1 e2 (n + 1) 0 0 st st ⟨fun _ _ _ _ => rfl, rfl, rfl, rfl⟩ ⟨fun _ _ _ _ _ => rfl, rfl, rfl, rfl, rfl⟩ ⟨fun k hk => h.2.2.2.1 k hk, h.2.2.2.2.1.2.1⟩ (Nat.zero_le _) (by omega)).2.1
theorem mk_sum_1 {st : ow_St} (h : RLs st)  : sameM st (fX3_sum_1 st).2 := by
  have q := sumS_1 h
  exact ⟨fun c h1 h2 => q.1 c (by omega) (by omega) (by omega), by rw [q.2.2.2], by rw [q.2.2.2]⟩
theorem eq_sum_1 {st : ow_St} (h : RLs st)  : (fX3_sum_1 st).1 = (fX4_sum_1 (fX3_sum_1 st).2 ).1 ∧ RLs (fX4_sum_1 (fX3_sum_1 st).2 ).2 := by
  have q := sumS_1 h
  obtain ⟨e, n, hn, e2⟩ := h.2.2.2.2.2.2.2.1 1 (by decide)
  have e1 := e.trans e2
  obtain ⟨C, hC⟩ : ∃ C, (fX3_sum_1 st).2 = C := ⟨_, rfl⟩
  rw [hC] at q ⊢
  have g := sum_1 h hn e1 e2 (n + 1) 0 0 st C ⟨fun _ _ _ _ => rfl, rfl, rfl, rfl⟩ ⟨fun c h1 h2 h3 h4 => q.1 c (by omega) (by omega) (by omega), by rw [q.1 61 (by decide) (by decide) (by decide)], by rw [q.1 61 (by decide) (by decide) (by decide)], by rw [q.1 61 (by decide) (by decide) (by decide)], by rw [q.2.2.2]⟩ ⟨fun k hk => by rw [q.1 52 (by decide) (by decide) (by decide), q.1 53 (by decide) (by decide) (by decide)]; exact h.2.2.2.1 k hk, by rw [q.1 61 (by decide) (by decide) (by decide)]; exact h.2.2.2.2.1.2.1⟩ (Nat.zero_le _) (by omega)
  have f3 : fX3_sum_1 st = flX3_sum_1 (n + 1) 0 0 st := by
    unfold fX3_sum_1
    rw [e1, nI_clamp (by omega)]
  have f4 : fX4_sum_1 C = flX4_sum_1 (n + 1) 0 0 C := by
    unfold fX4_sum_1
    rw [q.1 56 (by decide) (by decide) (by decide), e2, nI_clamp (by omega)]
  rw [← f3, ← f4] at g
  obtain ⟨g1, g2, g3, g4, g5⟩ := g
  rw [hC] at g4
  exact ⟨g1, RL_sum h q g3 g5 g4⟩
theorem fi_1n {st : ow_St} {x2 x3 x4 x5 : Int32} (c : (x2 < 0 ∨ 10 ≤ x2) ∨ x3 = 0 ∨ fX4_isIn st x3 0 3 = 0) : fX3_filter_1 st x2 x3 x4 x5 = ((-1), st) ∧ fX4_filter_1 st x2 x3 x4 x5 = ((-1), st) := by
  unfold fX3_filter_1 fX4_filter_1
  rw [hi_1 (z := st)]
  by_cases hs : x2 < 0 ∨ 10 ≤ x2
  · rw [if_pos hs, if_pos (isS_y.mpr hs)]
    exact ⟨rfl, rfl⟩
  · rw [if_neg hs, if_neg (fun q => hs (isS_y.mp q))]
    by_cases h0 : x3 = 0
    · subst h0
      rw [if_pos rfl, if_pos (by unfold fX4_isIn; decide)]
      exact ⟨rfl, rfl⟩
    · rw [if_neg h0, isIn_1 h0]
      rcases c with c | c | c
      · exact absurd c hs
      · exact absurd c h0
      · rw [if_pos c, if_pos c]
        exact ⟨rfl, rfl⟩
theorem fi_1k {st : ow_St} (h : RLs st) {x2 x3 x4 x5 : Int32} (hs : ¬ (x2 < 0 ∨ 10 ≤ x2)) (h0 : ¬ x3 = 0) (h2 : ¬ fX4_isIn st x3 0 3 = 0) (hk : ¬ st.2.2 (x2.toNatClampNeg + 1) = 1) : fX3_filter_1 st x2 x3 x4 x5 = ((-3), st) ∧ fX4_filter_1 st x2 x3 x4 x5 = ((-3), st) := by
  obtain ⟨s1, s2, s3, s5⟩ := h.2.2.2.2.2.2.1 _ (setN_b hs)
  unfold fX3_filter_1 fX4_filter_1
  rw [hi_1 (z := st), if_neg hs, if_neg (fun q => hs (isS_y.mp q)), if_neg h0, isIn_1 h0, if_neg h2, if_neg h2, if_neg hk, if_neg]
  · exact ⟨rfl, rfl⟩
  · rw [s2]
    rcases k3 s1 with ek | ek | ek
    · rw [ek] at hk ⊢
      first | exact absurd rfl hk | decide
    · rw [ek] at hk ⊢
      first | exact absurd rfl hk | decide
    · rw [ek] at hk ⊢
      first | exact absurd rfl hk | decide
theorem fi_1C {st : ow_St} {x2 x3 x4 x5 : Int32} (hs : ¬ (x2 < 0 ∨ 10 ≤ x2)) (h0 : ¬ x3 = 0) (h2 : ¬ fX4_isIn st x3 0 3 = 0) (hk : st.2.2 (x2.toNatClampNeg + 1) = 1) {n : Nat} (hn : n ≤ 30) (e1 : st.1 4 1 = nI n) : fX3_filter_1 st x2 x3 x4 x5 = flX3_filter_1 x2 x3 x4 x5 (n + 1) 0 (ow_si st 0 2 0) := by
  unfold fX3_filter_1
  rw [hi_1 (z := st), if_neg hs, if_neg h0, if_neg h2, if_pos hk, e1, nI_clamp (by omega)]
theorem fi_1M {z : ow_St} {x2 x3 x4 x5 : Int32} (hs : ¬ (x2 < 0 ∨ 10 ≤ x2)) (h0 : ¬ x3 = 0) (h2 : ¬ fX4_isIn z x3 0 3 = 0) (hk : z.1 54 x2.toNatClampNeg = 1) {n : Nat} (hn : n ≤ 30) (e1 : z.1 56 1 = nI n) : fX4_filter_1 z x2 x3 x4 x5 = flX4_filter_1 x2 x3 x4 x5 (n + 1) 0 (ow_si z 61 3 0) := by
  unfold fX4_filter_1
  rw [isIn_1 h0, if_neg (fun q => hs (isS_y.mp q)), if_neg h2, if_pos hk, e1, nI_clamp (by omega)]
theorem filS_1 {st : ow_St} (h : RLs st) {x2 x3 x4 x5 : Int32} (hs : ¬ (x2 < 0 ∨ 10 ≤ x2)) (h0 : ¬ x3 = 0) (h2 : ¬ fX4_isIn st x3 0 3 = 0) (hk : st.2.2 (x2.toNatClampNeg + 1) = 1) {n : Nat} (hn : n ≤ 30) (e1 : st.1 4 1 = nI n) (e2 : st.1 56 1 = nI n) {Z : ow_St} (hZ : FZ st Z) (z3 : Z.1 61 3 = 0) (z59 : Z.1 59 = st.1 59) : FR st Z (flX3_filter_1 x2 x3 x4 x5 (n + 1) 0 (ow_si st 0 2 0)) (flX4_filter_1 x2 x3 x4 x5 (n + 1) 0 Z) :=
  fil_1 h hs hk h0 h2 hn e1 e2 (n + 1) 0 _ _ 0 (FS.si ⟨fun _ _ _ _ => rfl, rfl, rfl, rfl⟩ (by omega)) hZ (ow_si_e st 0 2 0) z3 (Nat.le_refl 0) (Nat.zero_le _) (by omega) (fun j hj => by rw [ow_si_ne (by decide), z59]; exact h.2.2.2.2.2.1.2.2 j hj)

theorem mk_filter_1 {st : ow_St} (h : RLs st) (x2 x3 x4 x5 : Int32) : sameM st (fX3_filter_1 st x2 x3 x4 x5).2 := by
  by_cases c : (x2 < 0 ∨ 10 ≤ x2) ∨ x3 = 0 ∨ fX4_isIn st x3 0 3 = 0
  · obtain ⟨f1, f2⟩ := fi_1n (x4 := x4) (x5 := x5) c
    rw [f1]
    exact same_rf st
  · obtain ⟨hs, c2⟩ := not_or.mp c
    obtain ⟨h0, h2⟩ := not_or.mp c2
    obtain ⟨e, n, hn, e2⟩ := h.2.2.2.2.2.2.2.1 1 (by decide)
    by_cases hk : st.2.2 (x2.toNatClampNeg + 1) = 1
    · have f1 := fi_1C (x4 := x4) (x5 := x5) hs h0 h2 hk hn (e.trans e2)
      obtain ⟨m, -, -, -, q, -, -, -, -, -⟩ := filS_1 (x4 := x4) (x5 := x5) h hs h0 h2 hk hn (e.trans e2) e2 (FZ_0 st) (ow_si_e st 61 3 0) (ow_si_ne (by decide))
      rw [← f1] at q
      exact ⟨fun c h1 h2 => q.1 c (by omega) (by omega) (by omega), by rw [q.2.2.2], by rw [q.2.2.2]⟩
    · obtain ⟨f1, f2⟩ := fi_1k (x4 := x4) (x5 := x5) h hs h0 h2 hk
      rw [f1]
      exact same_rf st
theorem eq_filter_1 {st : ow_St} (h : RLs st) (x2 x3 x4 x5 : Int32) : (fX3_filter_1 st x2 x3 x4 x5).1 = (fX4_filter_1 (fX3_filter_1 st x2 x3 x4 x5).2 x2 x3 x4 x5).1 ∧ RLs (fX4_filter_1 (fX3_filter_1 st x2 x3 x4 x5).2 x2 x3 x4 x5).2 := by
  by_cases c : (x2 < 0 ∨ 10 ≤ x2) ∨ x3 = 0 ∨ fX4_isIn st x3 0 3 = 0
  · obtain ⟨f1, f2⟩ := fi_1n (x4 := x4) (x5 := x5) c
    rw [f1]
    rw [f2]
    exact ⟨rfl, h⟩
  · obtain ⟨hs, c2⟩ := not_or.mp c
    obtain ⟨h0, h2⟩ := not_or.mp c2
    obtain ⟨e, n, hn, e2⟩ := h.2.2.2.2.2.2.2.1 1 (by decide)
    by_cases hk : st.2.2 (x2.toNatClampNeg + 1) = 1
    · have f1 := fi_1C (x4 := x4) (x5 := x5) hs h0 h2 hk hn (e.trans e2)
      obtain ⟨m, -, -, -, q, -, -, -, -, -⟩ := filS_1 (x4 := x4) (x5 := x5) h hs h0 h2 hk hn (e.trans e2) e2 (FZ_0 st) (ow_si_e st 61 3 0) (ow_si_ne (by decide))
      rw [← f1] at q
      obtain ⟨C, hC⟩ : ∃ C, (fX3_filter_1 st x2 x3 x4 x5).2 = C := ⟨_, rfl⟩
      rw [hC] at q ⊢
      obtain ⟨s1, s2, s3, s5⟩ := h.2.2.2.2.2.2.1 _ (setN_b hs)
      have f2 : fX4_filter_1 C x2 x3 x4 x5 = flX4_filter_1 x2 x3 x4 x5 (n + 1) 0 (ow_si C 61 3 0) := fi_1M (z := C) hs h0 (by exact h2) (by rw [q.1 54 (by decide) (by decide) (by decide), s2, hk]; rfl) hn (by rw [q.1 56 (by decide) (by decide) (by decide)]; exact e2)
      have hZ : FZ st (ow_si C 61 3 0) := FZ.si ⟨fun c h1 h2 h3 h4 => q.1 c (by omega) (by omega) (by omega), by rw [q.1 61 (by decide) (by decide) (by decide)], by rw [q.1 61 (by decide) (by decide) (by decide)], by rw [q.1 61 (by decide) (by decide) (by decide)], by rw [q.2.2.2]⟩ (by omega)
      obtain ⟨m, r1, r2, r3, r4, r5, r6, r7, r8, r9⟩ := filS_1 (x4 := x4) (x5 := x5) h hs h0 h2 hk hn (e.trans e2) e2 hZ (ow_si_e C 61 3 0) ((ow_si_ne (by decide)).trans (q.1 59 (by decide) (by decide) (by decide)))
      rw [← f1] at r2 r6 r8
      rw [← f2] at r3 r5 r7 r8 r9
      rw [hC] at r6 r8
      exact ⟨r2.trans r3.symm, RL_fil h q r5 ((sameC.si (by decide) (by decide)).tr r9) ⟨r6.trans r7.symm, ⟨m, r1, r7⟩, r8⟩⟩
    · obtain ⟨f1, f2⟩ := fi_1k (x4 := x4) (x5 := x5) h hs h0 h2 hk
      rw [f1]
      rw [f2]
      exact ⟨rfl, h⟩
