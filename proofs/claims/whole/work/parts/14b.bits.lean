/-! bits: the class counts a set's members by Integer.bitCount, the reference by a loop over 26 places -/
theorem nx_and (a b : Nat) : nI a &&& nI b = nI (a &&& b) := by
  apply Int32.toBitVec_inj.1
  show BitVec.ofNat 32 a &&& BitVec.ofNat 32 b = BitVec.ofNat 32 (a &&& b)
  apply BitVec.eq_of_getLsbD_eq
  intro i hi
  simp [hi]
theorem nx_or (a b : Nat) : nI a ||| nI b = nI (a ||| b) := by
  apply Int32.toBitVec_inj.1
  show BitVec.ofNat 32 a ||| BitVec.ofNat 32 b = BitVec.ofNat 32 (a ||| b)
  apply BitVec.eq_of_getLsbD_eq
  intro i hi
  simp [hi]
theorem s_l : ∀ n, n < 32 → ((nI n &&& 31).toBitVec.smod 32).toNat = n := by decide +kernel
def by4 (a b c d : Nat) : Nat := a + 256 * b + 65536 * c + 16777216 * d
theorem by4_e (a b c d : Nat) : by4 a b c d = ((d * 256 + c) * 256 + b) * 256 + a := by
  unfold by4
  omega
theorem land_s {h l M m : Nat} (hl : l < 256) (hm : m < 256) : (h * 256 + l) &&& (M * 256 + m) = (h &&& M) * 256 + (l &&& m) := by
  apply Nat.eq_of_testBit_eq
  intro i
  have hlm : l &&& m < 2 ^ 8 := Nat.lt_of_le_of_lt Nat.and_le_left hl
  rw [Nat.testBit_and, show h * 256 + l = 2 ^ 8 * h + l by omega, show M * 256 + m = 2 ^ 8 * M + m by omega, show (h &&& M) * 256 + (l &&& m) = 2 ^ 8 * (h &&& M) + (l &&& m) by omega, Nat.testBit_two_pow_mul_add h (show l < 2 ^ 8 from hl), Nat.testBit_two_pow_mul_add M (show m < 2 ^ 8 from hm), Nat.testBit_two_pow_mul_add (h &&& M) hlm]
  by_cases c : i < 8
  · rw [if_pos c, if_pos c, if_pos c, Nat.testBit_and]
  · rw [if_neg c, if_neg c, if_neg c, Nat.testBit_and]
theorem land4 {a b c d m : Nat} (ha : a < 256) (hb : b < 256) (hc : c < 256) (hm : m < 256) : by4 a b c d &&& by4 m m m m = by4 (a &&& m) (b &&& m) (c &&& m) (d &&& m) := by
  rw [by4_e, by4_e, land_s ha hm, land_s hb hm, land_s hc hm, by4_e]
def popc (n : Nat) : Nat → Nat
  | 0 => 0
  | i + 1 => popc n i + n / 2 ^ i % 2
def ba (b : Nat) : Nat := b - ((b / 2) &&& 85)
def bs (b : Nat) : Nat := (ba b &&& 51) + ((ba b / 4) &&& 51)
def bu (b : Nat) : Nat := (bs b + bs b / 16) &&& 15
theorem bA : ∀ b, b < 256 → ∀ e, e < 2 → (b / 2 + e * 128) &&& 85 = (b / 2) &&& 85 := by decide +kernel
theorem bB : ∀ b, b < 256 → (b / 2) &&& 85 ≤ b := by decide +kernel
theorem bD : ∀ b, b < 256 → ∀ e, e < 4 → (b / 4 + e * 64) &&& 51 = (b / 4) &&& 51 := by decide +kernel
theorem bE : ∀ b, b < 256 → bs b ≤ 68 ∧ bs b % 16 ≤ 4 ∧ (ba b &&& 51) ≤ 51 ∧ ((ba b / 4) &&& 51) ≤ 51 := by decide +kernel
theorem bF : ∀ b, b < 256 → ∀ e, e < 5 → (bs b + bs b / 16 + e * 16) &&& 15 = bu b := by decide +kernel
theorem bG : ∀ b, b < 256 → bu b = popc b 8 ∧ bu b ≤ 8 := by decide +kernel
theorem bH : ∀ b, b < 4 → popc b 8 = popc b 2 := by decide +kernel
theorem ba_lt {b : Nat} (h : b < 256) : ba b < 256 := by
  unfold ba
  omega
theorem st1 {a b c d : Nat} (ha : a < 256) (hb : b < 256) (hc : c < 256) (hd : d < 256) : by4 a b c d - ((by4 a b c d / 2) &&& by4 85 85 85 85) = by4 (ba a) (ba b) (ba c) (ba d) := by
  have e : by4 a b c d / 2 = by4 (a / 2 + b % 2 * 128) (b / 2 + c % 2 * 128) (c / 2 + d % 2 * 128) (d / 2) := by
    unfold by4
    omega
  have h1 := bB a ha
  have h2 := bB b hb
  have h3 := bB c hc
  have h4 := bB d hd
  rw [e, land4 (by omega) (by omega) (by omega) (by decide), bA a ha _ (by omega), bA b hb _ (by omega), bA c hc _ (by omega)]
  unfold by4 ba
  omega
theorem st2 {a b c d : Nat} (ha : a < 256) (hb : b < 256) (hc : c < 256) (hd : d < 256) : (by4 (ba a) (ba b) (ba c) (ba d) &&& by4 51 51 51 51) + ((by4 (ba a) (ba b) (ba c) (ba d) / 4) &&& by4 51 51 51 51) = by4 (bs a) (bs b) (bs c) (bs d) := by
  have ka := ba_lt ha
  have kb := ba_lt hb
  have kc := ba_lt hc
  have kd := ba_lt hd
  have e : by4 (ba a) (ba b) (ba c) (ba d) / 4 = by4 (ba a / 4 + ba b % 4 * 64) (ba b / 4 + ba c % 4 * 64) (ba c / 4 + ba d % 4 * 64) (ba d / 4) := by
    unfold by4
    omega
  rw [e, land4 ka kb kc (by decide), land4 (by omega) (by omega) (by omega) (by decide), bD _ ka _ (by omega), bD _ kb _ (by omega), bD _ kc _ (by omega)]
  unfold by4 bs
  omega
theorem st3 {a b c d : Nat} (ha : a < 256) (hb : b < 256) (hc : c < 256) (hd : d < 256) : (by4 (bs a) (bs b) (bs c) (bs d) + by4 (bs a) (bs b) (bs c) (bs d) / 16) &&& by4 15 15 15 15 = by4 (bu a) (bu b) (bu c) (bu d) := by
  obtain ⟨a1, a2, -⟩ := bE a ha
  obtain ⟨b1, b2, -⟩ := bE b hb
  obtain ⟨c1, c2, -⟩ := bE c hc
  obtain ⟨d1, d2, -⟩ := bE d hd
  have e : by4 (bs a) (bs b) (bs c) (bs d) + by4 (bs a) (bs b) (bs c) (bs d) / 16 = by4 (bs a + bs a / 16 + bs b % 16 * 16) (bs b + bs b / 16 + bs c % 16 * 16) (bs c + bs c / 16 + bs d % 16 * 16) (bs d + bs d / 16 + 0 * 16) := by
    unfold by4
    omega
  rw [e, land4 (by omega) (by omega) (by omega) (by decide), bF a ha _ (by omega), bF b hb _ (by omega), bF c hc _ (by omega), bF d hd _ (by decide)]
theorem st5 {a b c d : Nat} (ha : a ≤ 8) (hb : b ≤ 8) (hc : c ≤ 8) (hd : d ≤ 8) : ((by4 a b c d + by4 a b c d / 256) + (by4 a b c d + by4 a b c d / 256) / 65536) % 64 = a + b + c + d := by
  have e1 : by4 a b c d / 256 = b + 256 * c + 65536 * d := by
    unfold by4
    omega
  have e2 : (by4 a b c d + (b + 256 * c + 65536 * d)) / 65536 = (c + d) + 256 * d := by
    unfold by4
    omega
  rw [e1, e2]
  unfold by4
  omega
theorem popB {l h : Nat} (hl : l < 256) : popc (l + 256 * h) 8 = popc l 8 := by
  have e : ∀ i, i < 8 → (l + 256 * h) / 2 ^ i % 2 = l / 2 ^ i % 2 := by
    intro i hi
    rcases (show i = 0 ∨ i = 1 ∨ i = 2 ∨ i = 3 ∨ i = 4 ∨ i = 5 ∨ i = 6 ∨ i = 7 by omega) with rfl | rfl | rfl | rfl | rfl | rfl | rfl | rfl <;> omega
  simp only [popc, e 0 (by decide), e 1 (by decide), e 2 (by decide), e 3 (by decide), e 4 (by decide), e 5 (by decide), e 6 (by decide), e 7 (by decide)]
theorem popS {l h : Nat} (hl : l < 256) : ∀ m, popc (l + 256 * h) (8 + m) = popc l 8 + popc h m := by
  intro m
  induction m with
  | zero => exact popB hl
  | succ m ih =>
    have e : (l + 256 * h) / 2 ^ (8 + m) = h / 2 ^ m := by
      rw [Nat.pow_add, ← Nat.div_div_eq_div_mul, show (l + 256 * h) / 2 ^ 8 = h by omega]
    show popc (l + 256 * h) (8 + m) + (l + 256 * h) / 2 ^ (8 + m) % 2 = popc l 8 + (popc h m + h / 2 ^ m % 2)
    rw [ih, e, Nat.add_assoc]
theorem pop4 {a b c d : Nat} (ha : a < 256) (hb : b < 256) (hc : c < 256) : popc (by4 a b c d) 26 = popc a 8 + popc b 8 + popc c 8 + popc d 2 := by
  rw [show by4 a b c d = a + 256 * (b + 256 * (c + 256 * d)) by unfold by4; omega]
  rw [show (26 : Nat) = 8 + 18 from rfl, popS ha, show (18 : Nat) = 8 + 10 from rfl, popS hb, show (10 : Nat) = 8 + 2 from rfl, popS hc]
  omega
theorem by_of (n : Nat) : n = by4 (n % 256) (n / 256 % 256) (n / 65536 % 256) (n / 16777216) := by
  unfold by4
  omega
def swn (n : Nat) : Nat := let a := n - ((n / 2) &&& 1431655765); let b := (a &&& 858993459) + ((a / 4) &&& 858993459); let c := (b + b / 16) &&& 252645135; ((c + c / 256) + (c + c / 256) / 65536) % 64
theorem sw_pop {n : Nat} (hn : n < 2 ^ 26) : swn n = popc n 26 := by
  obtain ⟨a, b, c, d, ha, hb, hc, hd, rfl⟩ : ∃ a b c d, a < 256 ∧ b < 256 ∧ c < 256 ∧ d < 4 ∧ n = by4 a b c d := ⟨n % 256, n / 256 % 256, n / 65536 % 256, n / 16777216, by omega, by omega, by omega, by omega, by_of n⟩
  have hd2 : d < 256 := by omega
  unfold swn
  dsimp only
  rw [show (1431655765 : Nat) = by4 85 85 85 85 from rfl, show (858993459 : Nat) = by4 51 51 51 51 from rfl, show (252645135 : Nat) = by4 15 15 15 15 from rfl, st1 ha hb hc hd2, st2 ha hb hc hd2, st3 ha hb hc hd2, st5 (bG a ha).2 (bG b hb).2 (bG c hc).2 (bG d hd2).2, pop4 ha hb hc, (bG a ha).1, (bG b hb).1, (bG c hc).1, (bG d hd2).1, bH d hd]
theorem bi1 {n : Nat} (hn : n < 2 ^ 32) : nI n - (((nI n).toUInt32 >>> ((1 : Int32).toUInt32 &&& Int32.toUInt32 31)).toInt32 &&& 1431655765) = nI (n - ((n / 2) &&& 1431655765)) := by
  rw [pk_ushrN hn 1 1 (by decide), show (1431655765 : Int32) = nI 1431655765 from rfl, nx_and, pk_sub (Nat.le_trans Nat.and_le_left (by omega))]
theorem bi2 {n : Nat} (hn : n < 2 ^ 32) : (nI n &&& 858993459) + (((nI n).toUInt32 >>> ((2 : Int32).toUInt32 &&& Int32.toUInt32 31)).toInt32 &&& 858993459) = nI ((n &&& 858993459) + ((n / 4) &&& 858993459)) := by
  rw [pk_ushrN hn 2 2 (by decide), show (858993459 : Int32) = nI 858993459 from rfl, nx_and, nx_and, nI_add]
theorem bi3 {n : Nat} (hn : n < 2 ^ 32) : (nI n + ((nI n).toUInt32 >>> ((4 : Int32).toUInt32 &&& Int32.toUInt32 31)).toInt32) &&& 252645135 = nI ((n + n / 16) &&& 252645135) := by
  rw [pk_ushrN hn 4 4 (by decide), nI_add, show (252645135 : Int32) = nI 252645135 from rfl, nx_and]
theorem bi4 {n : Nat} (hn : n < 2 ^ 32) : nI n + ((nI n).toUInt32 >>> ((8 : Int32).toUInt32 &&& Int32.toUInt32 31)).toInt32 = nI (n + n / 256) := by
  rw [pk_ushrN hn 8 8 (by decide), nI_add]
theorem bi5 {n : Nat} (hn : n < 2 ^ 32) : nI n + ((nI n).toUInt32 >>> ((16 : Int32).toUInt32 &&& Int32.toUInt32 31)).toInt32 = nI (n + n / 65536) := by
  rw [pk_ushrN hn 16 16 (by decide), nI_add]
theorem bc_sw {st : ow_St} {n : Nat} (hn : n < 2 ^ 26) : fJ6_bitCount_0f7a4 st (nI n) = nI (swn n) := by
  unfold fJ6_bitCount_0f7a4
  have h1 : n < 2 ^ 32 := by omega
  have l2 : n - ((n / 2) &&& 1431655765) < 2 ^ 31 := by omega
  generalize e1 : n - ((n / 2) &&& 1431655765) = a at l2
  have l3 : (a &&& 858993459) + ((a / 4) &&& 858993459) < 2 ^ 31 := by
    have q1 : a &&& 858993459 ≤ 858993459 := Nat.and_le_right
    have q2 : (a / 4) &&& 858993459 ≤ 858993459 := Nat.and_le_right
    omega
  generalize e2 : (a &&& 858993459) + ((a / 4) &&& 858993459) = b at l3
  have l4 : (b + b / 16) &&& 252645135 < 2 ^ 28 := by
    have q1 : (b + b / 16) &&& 252645135 ≤ 252645135 := Nat.and_le_right
    omega
  generalize e3 : (b + b / 16) &&& 252645135 = c at l4
  simp only [bi1 h1, e1, bi2 (show a < 2 ^ 32 by omega), e2, bi3 (show b < 2 ^ 32 by omega), e3, bi4 (show c < 2 ^ 32 by omega), bi5 (show c + c / 256 < 2 ^ 32 by omega)]
  rw [pk_andN (show (c + c / 256) + (c + c / 256) / 65536 < 2 ^ 32 by omega) 6 (by decide)]
  unfold swn
  dsimp only
  rw [e1, e2, e3]
theorem size_loop {st : ow_St} {n : Nat} (hn : n < 2 ^ 31) : ∀ m i, i ≤ 26 → 26 < i + m → flX4_size st (nI n) m i (nI (popc n i)) = nI (popc n 26) := by
  intro m
  induction m with
  | zero => intro i h1 h2; omega
  | succ m ih =>
    intro i hi hm
    unfold flX4_size
    by_cases c : (26 : Int32) ≤ nI i
    · have e : i = 26 := by
        rcases Nat.lt_or_ge i 26 with q | q
        · exact absurd (show nI 26 ≤ nI i from c) (nI_ge q (by decide))
        · omega
      subst e
      rw [if_pos c]
    · have hlt : i < 26 := ow_lt (b := 26) c hi (by decide)
      have hdiv : n / 2 ^ i < 2 ^ 32 := Nat.lt_of_le_of_lt (Nat.div_le_self _ _) (by omega)
      rw [if_neg c, pk_shrN hn _ i (s_l i (by omega)), pk_andN hdiv 1 (by decide), nI_add]
      exact ih (i + 1) (by omega) (by omega)
theorem sz_eq {st st' : ow_St} {m : Int32} (h : small26 m) : fJ6_bitCount_0f7a4 st m = fX4_size st' m := by
  obtain ⟨n, hn, rfl⟩ := h
  rw [bc_sw hn, sw_pop hn]
  exact (size_loop (st := st') (n := n) (by omega) 27 0 (by omega) (by omega)).symm
theorem small_and {m z : Int32} (h : small26 m) : small26 (m &&& z) := by
  obtain ⟨n, hn, rfl⟩ := h
  refine ⟨n &&& z.toBitVec.toNat, Nat.lt_of_le_of_lt Nat.and_le_left hn, ?_⟩
  rw [← nx_and]
  congr 1
  apply Int32.toBitVec_inj.1
  show z.toBitVec = BitVec.ofNat 32 z.toBitVec.toNat
  rw [BitVec.ofNat_toNat, BitVec.setWidth_eq]
theorem small_or {m z : Int32} (h : small26 m) (h2 : small26 z) : small26 (m ||| z) := by
  obtain ⟨a, ha, rfl⟩ := h
  obtain ⟨b, hb, rfl⟩ := h2
  exact ⟨a ||| b, Nat.or_lt_two_pow ha hb, nx_or a b⟩
theorem one_shl : ∀ c, c < 26 → (1 : Int32) <<< (nI c &&& 31) = nI (2 ^ c) := by decide +kernel
theorem small_bit {c : Nat} (h : c < 26) : small26 ((1 : Int32) <<< (nI c &&& 31)) := ⟨2 ^ c, Nat.pow_lt_pow_right (by decide) h, one_shl c h⟩
/-- a member, by either test -/
theorem bit_tests {m : Int32} (h : small26 m) {c : Nat} (hc : c < 26) : ((m >>> (nI c &&& 31)) &&& 1) = 1 ↔ ¬ (m &&& ((1 : Int32) <<< (nI c &&& 31))) = 0 := by
  obtain ⟨n, hn, rfl⟩ := h
  have hdiv : n / 2 ^ c < 2 ^ 32 := Nat.lt_of_le_of_lt (Nat.div_le_self _ _) (by omega)
  have hle : n &&& 2 ^ c ≤ n := Nat.and_le_left
  rw [pk_shrN (by omega) _ c (s_l c (by omega)), pk_andN hdiv 1 (by decide), one_shl c hc, nx_and, show (1 : Int32) = nI 1 from rfl, show (0 : Int32) = nI 0 from rfl, nI_eq (by omega) (by decide), nI_eq (by omega) (by decide)]
  have e : n.testBit c = decide (n / 2 ^ c % 2 = 1) := Nat.testBit_eq_decide_div_mod_eq
  constructor
  · intro q hz
    have h2 : (n &&& 2 ^ c).testBit c = true := by
      rw [Nat.testBit_and, Nat.testBit_two_pow_self, Bool.and_true, e]
      exact decide_eq_true q
    rw [hz] at h2
    simp at h2
  · intro q
    rcases Nat.mod_two_eq_zero_or_one (n / 2 ^ c) with z | z
    · refine absurd ?_ q
      apply Nat.eq_of_testBit_eq
      intro i
      rw [Nat.testBit_and, Nat.zero_testBit]
      by_cases hi : c = i
      · subst hi
        rw [e]
        simp [z]
      · rw [Nat.testBit_two_pow_of_ne hi, Bool.and_false]
    · exact z
