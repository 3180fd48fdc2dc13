/-! THE WORLD. An object of the system is named by two numbers (group, place); ad gives its address, ow_c what it holds, out of the state st: ints by (row, place), longs, references by number. -/
abbrev ow_St : Type := (Nat → Nat → Int32) × (Nat → Int64) × (Nat → Nat)
abbrev ow_Ad : Type := Nat → Nat → Nat
def mn (k : Nat) : Nat := if k = 0 then 5 else if k = 1 then 7 else 26
def ow_si (st : ow_St) (c i : Nat) (v : Int32) : ow_St := (fun c' i' => if c' = c ∧ i' = i then v else st.1 c' i', st.2.1, st.2.2)
def ow_sl (st : ow_St) (i : Nat) (v : Int64) : ow_St := (st.1, (fun i' => if i' = i then v else st.2.1 i'), st.2.2)
def ow_sr (st : ow_St) (i : Nat) (v : Nat) : ow_St := (st.1, st.2.1, (fun i' => if i' = i then v else st.2.2 i'))
def ow_pt (ad : ow_Ad) (n : Nat) : Option Nat := match n with
  | 0 => none
  | n + 1 => some (ad 6 n)
def ow_nmA : List Int64 := [435459026032, 1684107122, 1853321076, 491328530802, 1819044200]
def ow_nmB : List Int64 := [28532, 1836020326, 1918985582, 1919252079, 491327352437, 121399003081079, 111481940305250]
def ow_nmC : List Int64 := [97, 98, 99, 100, 101, 102, 103, 104, 105, 106, 107, 108, 109, 110, 111, 112, 113, 114, 115, 116, 117, 118, 119, 120, 121, 122]
def ow_nm (k j : Nat) : Int64 := if k = 0 then ow_nmA.getD j 0 else if k = 1 then ow_nmB.getD j 0 else ow_nmC.getD j 0
def ow_nmM (j : Nat) : Int64 := (ow_nmA ++ ow_nmB).getD j 0
def ow_wi (j : Nat) : Int64 := ([5, 7, 9] : List Int64).getD j 0
def ow_mny (j : Nat) : Int32 := ([5, 7, 26] : List Int32).getD j 0
def ow_ids : List (Nat × Nat) := [(0, 0), (1, 0), (1, 1), (1, 2), (2, 0), (2, 1), (2, 2), (3, 0), (3, 1), (3, 2), (4, 0), (5, 0), (5, 1), (5, 2), (5, 3), (5, 4), (5, 5), (5, 6), (5, 7), (5, 8), (5, 9), (6, 0), (6, 1), (7, 0), (7, 1), (8, 0), (8, 1), (8, 2), (8, 3), (8, 4), (8, 5), (8, 6), (8, 7), (9, 0), (9, 1), (9, 2), (10, 0), (11, 0), (11, 1), (11, 2), (11, 3), (11, 4), (11, 5), (11, 6), (11, 7), (11, 8), (11, 9), (11, 10), (11, 11), (11, 12)]

def ow_c (ca : Nat → ClassId) (ad : ow_Ad) (st : ow_St) (g i : Nat) : va_E := match g with
  | 0 => (match i with
    | 0 => .inr (3, [.ref (ad 1 0), .ref (ad 1 1), .ref (ad 1 2), .ref (ad 4 0), .ref (ad 6 0), .ref (ad 6 1), .long (st.2.1 0), .int (st.1 0 0), .int (st.1 0 1), .ref (ad 9 0), .ref (ad 9 1), va_rf (ow_pt ad (st.2.2 0)), .ref (ad 9 2), .int (st.1 0 2)])
    | _ => .inr (0, []))
  | 1 => .inr (0, [.int (nI i), .ref (ad 12 i), .int (nI (mn i)), .ref (ad 2 i), .ref (ad 3 i), .int (st.1 1 i), .int (st.1 2 i)])
  | 2 => .inl (ca 0, mn i, .inl (st.1 (100 + 4 * i)))
  | 3 => .inl (ca 0, mn i, .inl (st.1 (101 + 4 * i)))
  | 4 => .inl (ca 3, 10, .inr (.inr (.inr (.inr (fun j => if j < 10 then some (ad 5 j) else none)))))
  | 5 => .inr (1, [.ref (ad 1 (st.2.2 (i + 1))), .int (st.1 3 i)])
  | 6 => .inr (2, [.ref (ad 1 i), .int (nI (3 + i)), .int (nI (1 + 2 * i)), .ref (ad 7 i), .int (st.1 4 i)])
  | 7 => .inl (ca 4, 4, .inr (.inr (.inr (.inr (fun j => if j < 4 then some (ad 8 (4 * i + j)) else none)))))
  | 8 => .inl (ca 0, 30, .inl (st.1 (102 + 4 * i)))
  | 9 => .inl (ca 0, if i = 2 then 30 else 4, .inl (st.1 (103 + 4 * i)))
  | 10 => (match i with
    | 0 => .inr (4, [.ref (ad 11 0), .ref (ad 11 1), .ref (ad 11 2), .ref (ad 11 3), .ref (ad 11 4), .ref (ad 11 5), .long (st.2.1 1), .int (st.1 61 0), .int (st.1 61 1), .ref (ad 11 6), .ref (ad 11 7), .ref (ad 11 8), .ref (ad 11 9), .int (st.1 61 2), .ref (ad 11 10), .int (st.1 61 3), .ref (ad 11 11), .long (st.2.1 2), .ref (ad 11 12)])
    | _ => .inr (0, []))
  | 11 => (match i with
    | 0 => .inl (ca 0, 3, .inl ow_mny)
    | 1 => .inl (ca 1, 12, .inr (.inl ow_nmM))
    | 2 => .inl (ca 0, 78, .inl (st.1 50))
    | 3 => .inl (ca 0, 78, .inl (st.1 51))
    | 4 => .inl (ca 0, 3, .inl (st.1 52))
    | 5 => .inl (ca 2, 3, .inl (st.1 53))
    | 6 => .inl (ca 0, 10, .inl (st.1 54))
    | 7 => .inl (ca 0, 10, .inl (st.1 55))
    | 8 => .inl (ca 0, 2, .inl (st.1 56))
    | 9 => .inl (ca 0, 240, .inl (st.1 57))
    | 10 => .inl (ca 0, 4, .inl (st.1 58))
    | 11 => .inl (ca 0, 30, .inl (st.1 59))
    | 12 => .inl (ca 0, 4, .inl (st.1 60))
    | _ => .inr (0, []))
  | _ => .inr (0, [])
def ow_ws (ad : ow_Ad) (w : Nat → Nat → va_E) : va_W := ow_ids.map (fun k => (ad k.1 k.2, w k.1 k.2))
def ow_up (w : Nat → Nat → va_E) (g i : Nat) (e : va_E) : Nat → Nat → va_E := fun g' i' => if g' = g ∧ i' = i then e else w g' i'
def ow_z : Nat → Nat → va_E := fun _ _ => .inr (0, [])
def ow_ty (ca : Nat → ClassId) : List (ClassId × FieldType) := [(ca 0, .int), (ca 1, .long), (ca 2, .boolean), (ca 3, .object "RecordLabels$LabelSet"), (ca 4, .array .int)]
theorem ow_nd : ∀ i, i < 50 → ∀ j, j < 50 → ow_ids[i]? = ow_ids[j]? → i = j := by decide +kernel
theorem ow_len : ow_ids.length = 50 := by decide +kernel
theorem ow_get {ad : ow_Ad} {w : Nat → Nat → va_E} {g i : Nat} (h : (g, i) ∈ ow_ids) : ∃ q : Nat, ow_ids[q]? = some (g, i) ∧ (ow_ws ad w)[q]? = some (ad g i, w g i) := by
  obtain ⟨q, hq⟩ := List.getElem?_of_mem h
  refine ⟨q, hq, ?_⟩
  unfold ow_ws
  rw [List.getElem?_map, hq]
  rfl
theorem ow_set {ad : ow_Ad} {w : Nat → Nat → va_E} {g i q : Nat} {e : va_E} (hq : ow_ids[q]? = some (g, i)) : (ow_ws ad w).set q (ad g i, e) = ow_ws ad (ow_up w g i e) := by
  apply List.ext_getElem?
  intro j
  have hql : q < ow_ids.length := (List.getElem?_eq_some_iff.mp hq).1
  unfold ow_ws
  by_cases hj : j < ow_ids.length
  · obtain ⟨x, hx⟩ : ∃ x, ow_ids[j]? = some x := ⟨_, List.getElem?_eq_getElem hj⟩
    by_cases e1 : q = j
    · subst e1
      rw [List.getElem?_set_self (by rw [List.length_map]; exact hql), List.getElem?_map, hq]
      simp [ow_up]
    · rw [List.getElem?_set_ne e1, List.getElem?_map, List.getElem?_map, hx]
      have hne : ¬ (x.1 = g ∧ x.2 = i) := by
        rintro ⟨a, b⟩
        refine e1 (ow_nd q (by rw [ow_len] at hql; exact hql) j (by rw [ow_len] at hj; exact hj) ?_)
        rw [hq, hx]
        cases x
        cases a
        cases b
        rfl
      simp [ow_up, hne]
  · rw [List.getElem?_eq_none (by simp; omega), List.getElem?_eq_none (by simp; omega)]
theorem ow_D {A : Nat → Prop} {ad : ow_Ad} {w w' : Nat → Nat → va_E} (h : va_D A (ow_ws ad w)) : va_D A (ow_ws ad w') := by
  have key : ∀ (k : Nat) (q : Nat × va_E), (ow_ws ad w')[k]? = some q → ∃ q', (ow_ws ad w)[k]? = some q' ∧ q'.1 = q.1 := by
    intro k q hq
    unfold ow_ws at hq ⊢
    rw [List.getElem?_map] at hq ⊢
    cases hk : ow_ids[k]? with
    | none => rw [hk] at hq; cases hq
    | some x => rw [hk] at hq; cases hq; exact ⟨_, rfl, rfl⟩
  refine ⟨fun i j p q hi hj hpq => ?_, fun k q hk => ?_⟩
  · obtain ⟨p', h1, h2⟩ := key i p hi
    obtain ⟨q', h3, h4⟩ := key j q hj
    exact h.1 i j p' q' h1 h3 (by rw [h2, h4]; exact hpq)
  · obtain ⟨q', h1, h2⟩ := key k q hk
    rw [← h2]
    exact h.2 k q' h1
theorem ow_inj {A : Nat → Prop} {ad : ow_Ad} {w : Nat → Nat → va_E} (h : va_D A (ow_ws ad w)) {g i g' i' : Nat} (h1 : (g, i) ∈ ow_ids) (h2 : (g', i') ∈ ow_ids) (e : ad g i = ad g' i') : g = g' ∧ i = i' := by
  obtain ⟨q, a1, a2⟩ := ow_get (ad := ad) (w := w) h1
  obtain ⟨q', b1, b2⟩ := ow_get (ad := ad) (w := w) h2
  have := h.1 q q' _ _ a2 b2 e
  subst this
  have := a1.symm.trans b1
  cases this
  exact ⟨rfl, rfl⟩

def ow_nest : List Cond := [.fieldLinkNest RX3 155 "RecordLabels$Kind" "number" "I" "RecordLabels", .fieldLinkNest RX3 153 "RecordLabels$Kind" "size" "I" "RecordLabels", .fieldLinkNest RX3 117 "RecordLabels$Kind" "start" "I" "RecordLabels", .fieldLinkNest RX3 120 "RecordLabels$Kind" "toldToFail" "Z" "RecordLabels", .fieldLinkNest RX3 192 "RecordLabels$Table" "kind" "LRecordLabels$Kind;" "RecordLabels", .fieldLinkNest RX3 171 "RecordLabels$Table" "items" "I" "RecordLabels", .fieldLinkNest RX3 206 "RecordLabels$Table" "measure" "I" "RecordLabels", .fieldLinkNest RX3 174 "RecordLabels$Table" "columns" "[[I" "RecordLabels", .fieldLinkNest RX3 162 "RecordLabels$Table" "size" "I" "RecordLabels", .fieldLinkNest RX3 140 "RecordLabels$LabelSet" "kind" "LRecordLabels$Kind;" "RecordLabels", .fieldLinkNest RX3 146 "RecordLabels$LabelSet" "members" "I" "RecordLabels", .methodLinkNest RX3 15 yX0_init "RecordLabels", .methodLinkNest RX3 42 yX2_init "RecordLabels", .methodLinkNest RX3 79 yX1_init "RecordLabels", .methodLinkNest RX3 86 yX0_constantNamed "RecordLabels", .methodLinkNest RX3 90 yX0_codeOf "RecordLabels", .methodLinkNest RX3 94 yX0_constantOf "RecordLabels", .methodLinkNest RX3 97 yX0_nameOf "RecordLabels", .methodLinkNest RX3 101 yX0_has "RecordLabels", .methodLinkNest RX3 105 yX0_exchange "RecordLabels", .methodLinkNest RX3 209 yX0_startForRule "RecordLabels", .methodLinkNest RX3 132 yX1_size "RecordLabels", .methodLinkNest RX3 136 yX1_become "RecordLabels", .methodLinkNest RX3 143 yX1_holds "RecordLabels", .methodLinkNest RX1 23 yX0_has "RecordLabels", .methodLinkNest RX3 178 yX2_hasRecord "RecordLabels", .methodLinkNest RX3 181 yX2_hasItem "RecordLabels"]
theorem ow_nest_go {s U : State} (hW : s.WarmedH U.vm) (h : ∀ w ∈ ow_nest, va_Nw w s) : ∀ w ∈ ow_nest, va_Nw w U := by
  intro w hw
  have h1 := h w hw
  simp only [ow_nest, List.mem_cons, List.not_mem_nil, or_false] at hw
  rcases hw with rfl | rfl | rfl | rfl | rfl | rfl | rfl | rfl | rfl | rfl | rfl | rfl | rfl | rfl | rfl | rfl | rfl | rfl | rfl | rfl | rfl | rfl | rfl | rfl | rfl | rfl | rfl <;> first | exact va_Nw.warmF hW h1 | exact va_Nw.warmM hW h1
theorem ow_nest_same {s U : State} (e : s.vm = U.vm) (h : ∀ w ∈ ow_nest, va_Nw w s) : ∀ w ∈ ow_nest, va_Nw w U := by
  intro w hw
  have h1 := h w hw
  simp only [ow_nest, List.mem_cons, List.not_mem_nil, or_false] at hw
  rcases hw with rfl | rfl | rfl | rfl | rfl | rfl | rfl | rfl | rfl | rfl | rfl | rfl | rfl | rfl | rfl | rfl | rfl | rfl | rfl | rfl | rfl | rfl | rfl | rfl | rfl | rfl | rfl <;> exact va_Nw.same rfl e h1

/-- what holds of the tables and the statics all the while -/
def ow_C (D : va_G) (ca : Nat → ClassId) (ad : ow_Ad) (A : Nat → Prop) (U : State) : Prop :=
  va_K D vwCl (ow_ty ca) U ∧ va_D A (ow_ws ad ow_z) ∧ (∀ w ∈ ow_nest, va_Nw w U) ∧ (∀ q, U.heap.size ≤ q → A q) ∧
  (∀ k, k < 3 → va_T .long (ad 12 k) (mn k) (fun j => .long (ow_nm k j)) A U U.heap) ∧ va_Z "RecordLabels" "WITHIN_ITEMS" "[J" (.ref (ad 12 3)) A U U.heap ∧ va_T .long (ad 12 3) 3 (fun j => .long (ow_wi j)) A U U.heap
def ow_W (D : va_G) (ca : Nat → ClassId) (ad : ow_Ad) (A : Nat → Prop) (st : ow_St) (U : State) : Prop := va_P D vwCl (ow_ws ad (ow_c ca ad st)) U.heap ∧ ow_C D ca ad A U
def ow_B (D : va_G) (ca : Nat → ClassId) (ad : ow_Ad) (st : ow_St) (t : State) : Prop := va_P D vwCl (ow_ws ad (ow_c ca ad st)) t.heap
theorem ow_Bi {D : va_G} {ca : Nat → ClassId} {ad : ow_Ad} {st : ow_St} {t : State} {H : Heap} (ht : t.heap = H) (hP : va_P D vwCl (ow_ws ad (ow_c ca ad st)) H) : ow_B D ca ad st t := by
  unfold ow_B
  rw [ht]
  exact hP
theorem ow_C.go {D : va_G} {ca : Nat → ClassId} {ad : ow_Ad} {A : Nat → Prop} {s U : State} {H : Heap} {locs : List Loc} (h : ow_C D ca ad A s) (hS : va_S A s.heap H locs) (hU : U.heap = H) (hW : s.WarmedH U.vm) : ow_C D ca ad A U := by
  obtain ⟨h1, h2, h3, h4, h5, h6, h7⟩ := h
  have hk : ∀ a : Nat, a < s.heap.size → ¬ A a → U.heap[a]? = s.heap[a]? := fun a h8 h9 => by rw [hU]; exact hS.2.1 a h8 h9
  exact ⟨va_K.moved hW.alike h1, h2, ow_nest_go hW h3, fun q hq => h4 q (by rw [hU] at hq; exact Nat.le_trans hS.1 hq), fun k hk3 => va_T.moved hW.alike ((h5 k hk3).kept hk), va_Z.moved hW.alike (h6.kept hk), va_T.moved hW.alike (h7.kept hk)⟩
theorem ow_C.calling {D : va_G} {ca : Nat → ClassId} {ad : ow_Ad} {A : Nat → Prop} {U : State} {a : Array Value} {g : JFrame} {mk : MethodId} (h : ow_C D ca ad A U) : ow_C D ca ad A (U.calling g mk a) := by
  obtain ⟨h1, h2, h3, h4, h5, h6, h7⟩ := h
  exact ⟨va_K.moved (u := U) (U := U.calling g mk a) (Vm.Alike.refl U.vm) h1, h2, ow_nest_same (s := U) (U := U.calling g mk a) rfl h3, h4, fun k hk => va_T.moved (u := U) (U := U.calling g mk a) (Vm.Alike.refl U.vm) (h5 k hk), va_Z.moved (u := U) (U := U.calling g mk a) (Vm.Alike.refl U.vm) h6, va_T.moved (u := U) (U := U.calling g mk a) (Vm.Alike.refl U.vm) h7⟩
theorem ow_blind (D : va_G) (ca : Nat → ClassId) (ad : ow_Ad) (A : Nat → Prop) (st : ow_St) (av : List Value) : FrameBlind (va_Pc av (ow_W D ca ad A st)) := fun _ _ _ _ q => ⟨q.1, q.2.1, q.2.2.calling⟩
section OW
variable {p : Program} {l : Launch} {e : Env} {R : Room} {s : State} {m : MethodId} {args : Array Value} {below : List Frame} {meth : Method} {c : Code} {H : Heap} {locs : List Loc} {cells slots : Nat} {Q : State → Prop}
variable {cc : ByteArray} {pc : Nat} {ls : Array Slot} {rest : List Value} {D : va_G} {A : Nat → Prop} {ca : Nat → ClassId} {ad : ow_Ad} {w w' : Nat → Nat → va_E} {H0 : Heap}
theorem og_get (hx : p.tables.exec = Jvm.exec) (hb : c.code = cc) {own ref C : String} {T : u_T} {N ci index g i : Nat} {Ts : List Cond} (hts : ∀ w ∈ Ts, w.before args s = true) (hin : ∀ w ∈ u_ws C T N, w ∈ Ts) (hown : s.vm.findClass own = some m.cls) (hC : ow_C D ca ad A s) (hP : va_P D vwCl (ow_ws ad w) H) (hid : (g, i) ∈ ow_ids) {fs : List Value} (he : w g i = .inr (ci, fs)) (hc : vwCl[ci]? = some (C, T, N)) (k : Nat) (hk : k < N) (hlink : (Cond.fieldLink own index ref (T k).2.1 (T k).2.2.1).before args s = true) (hsame : (T k).1 = ref) {v : Value} (hv : fs[k]? = some v) (hdg : decode cc pc = .ok (.getfield index, 3))
    (kk : W p l e R s m args below meth c H locs cells slots Q (F0 m (pc + 3) ls (v :: rest))) : W p l e R s m args below meth c H locs cells slots Q (F0 m pc ls (.ref (ad g i) :: rest)) := by
  obtain ⟨q, -, hq⟩ := ow_get (ad := ad) (w := w) hid
  rw [he] at hq
  subst hsame
  exact va_get hx hb hts hin hown hC.1 hP q hq hc k hk hlink (fun _ h => h) hv hdg kk
theorem og_getN (hx : p.tables.exec = Jvm.exec) (hb : c.code = cc) {own ref C host : String} {T : u_T} {N ci index g i : Nat} {Ts : List Cond} (hts : ∀ w ∈ Ts, w.before args s = true) (hin : ∀ w ∈ u_ws C T N, w ∈ Ts) (hown : s.vm.findClass own = some m.cls) (hC : ow_C D ca ad A s) (hP : va_P D vwCl (ow_ws ad w) H) (hid : (g, i) ∈ ow_ids) {fs : List Value} (he : w g i = .inr (ci, fs)) (hc : vwCl[ci]? = some (C, T, N)) (k : Nat) (hk : k < N) (hlink : Cond.fieldLinkNest own index ref (T k).2.1 (T k).2.2.1 host ∈ ow_nest) (hsame : (T k).1 = ref) {v : Value} (hv : fs[k]? = some v) (hdg : decode cc pc = .ok (.getfield index, 3))
    (kk : W p l e R s m args below meth c H locs cells slots Q (F0 m (pc + 3) ls (v :: rest))) : W p l e R s m args below meth c H locs cells slots Q (F0 m pc ls (.ref (ad g i) :: rest)) := by
  obtain ⟨q, -, hq⟩ := ow_get (ad := ad) (w := w) hid
  rw [he] at hq
  subst hsame
  exact va_getN hx hb hts hin hown hC.1 hP q hq hc k hk (va_Nw.use rfl (hC.2.2.1 _ hlink)) (fun _ h => h) hv hdg kk
theorem og_put (hx : p.tables.exec = Jvm.exec) (hb : c.code = cc) {own ref C : String} {T : u_T} {N ci index g i : Nat} {Ts : List Cond} (hts : ∀ w ∈ Ts, w.before args s = true) (hin : ∀ w ∈ u_ws C T N, w ∈ Ts) (ty0 : Nat → FieldType) (hty : ∀ k, k < N → parseFieldDescriptor (T k).2.2.1 = some (ty0 k)) (hnm : ∀ a, a < N → ∀ b, b < N → a ≠ b → (T a).2.1 ≠ (T b).2.1) (hown : s.vm.findClass own = some m.cls) (hC : ow_C D ca ad A s) (hP : va_P D vwCl (ow_ws ad w) H) (hS : va_S A H0 H locs) (hid : (g, i) ∈ ow_ids) {fs : List Value} (he : w g i = .inr (ci, fs)) (hc : vwCl[ci]? = some (C, T, N)) (k : Nat) (hk : k < N) (hlink : (Cond.fieldLink own index ref (T k).2.1 (T k).2.2.1).before args s = true) (hsame : (T k).1 = ref) (hfin : (T k).2.2.2 = false) {ty : FieldType} {v : Value} (hd : parseFieldDescriptor (T k).2.2.1 = some ty) (hn : narrow ty v = v) (hfit : fits ty v = true) (hl : k < fs.length) (hw : ow_up w g i (.inr (ci, fs.set k v)) = w')
    (hdg : decode cc pc = .ok (.putfield index, 3)) (kk : ∀ (H1 : Heap) (locs1 : List Loc), va_P D vwCl (ow_ws ad w') H1 → va_S A H0 H1 locs1 → W p l e R s m args below meth c H1 locs1 cells slots Q (F0 m (pc + 3) ls rest)) : W p l e R s m args below meth c H locs cells slots Q (F0 m pc ls (v :: .ref (ad g i) :: rest)) := by
  obtain ⟨q, hq0, hq⟩ := ow_get (ad := ad) (w := w) hid
  rw [he] at hq
  subst hsame
  refine va_put hx hb hts hin ty0 hty hnm hown hC.1 hP (ow_D hC.2.1) hS q hq hc k hk hlink (fun _ h => h) hfin hd hn hfit hl hdg (fun H1 locs1 hP1 _ hS1 => ?_)
  rw [ow_set hq0, hw] at hP1
  exact kk H1 locs1 hP1 hS1
theorem og_putN (hx : p.tables.exec = Jvm.exec) (hb : c.code = cc) {own ref C host : String} {T : u_T} {N ci index g i : Nat} {Ts : List Cond} (hts : ∀ w ∈ Ts, w.before args s = true) (hin : ∀ w ∈ u_ws C T N, w ∈ Ts) (ty0 : Nat → FieldType) (hty : ∀ k, k < N → parseFieldDescriptor (T k).2.2.1 = some (ty0 k)) (hnm : ∀ a, a < N → ∀ b, b < N → a ≠ b → (T a).2.1 ≠ (T b).2.1) (hown : s.vm.findClass own = some m.cls) (hC : ow_C D ca ad A s) (hP : va_P D vwCl (ow_ws ad w) H) (hS : va_S A H0 H locs) (hid : (g, i) ∈ ow_ids) {fs : List Value} (he : w g i = .inr (ci, fs)) (hc : vwCl[ci]? = some (C, T, N)) (k : Nat) (hk : k < N) (hlink : Cond.fieldLinkNest own index ref (T k).2.1 (T k).2.2.1 host ∈ ow_nest) (hsame : (T k).1 = ref) (hfin : (T k).2.2.2 = false) {ty : FieldType} {v : Value} (hd : parseFieldDescriptor (T k).2.2.1 = some ty) (hn : narrow ty v = v) (hfit : fits ty v = true) (hl : k < fs.length) (hw : ow_up w g i (.inr (ci, fs.set k v)) = w')
    (hdg : decode cc pc = .ok (.putfield index, 3)) (kk : ∀ (H1 : Heap) (locs1 : List Loc), va_P D vwCl (ow_ws ad w') H1 → va_S A H0 H1 locs1 → W p l e R s m args below meth c H1 locs1 cells slots Q (F0 m (pc + 3) ls rest)) : W p l e R s m args below meth c H locs cells slots Q (F0 m pc ls (v :: .ref (ad g i) :: rest)) := by
  obtain ⟨q, hq0, hq⟩ := ow_get (ad := ad) (w := w) hid
  rw [he] at hq
  subst hsame
  refine va_putN hx hb hts hin ty0 hty hnm hown hC.1 hP (ow_D hC.2.1) hS q hq hc k hk (va_Nw.use rfl (hC.2.2.1 _ hlink)) (fun _ h => h) hfin hd hn hfit hl hdg (fun H1 locs1 hP1 _ hS1 => ?_)
  rw [ow_set hq0, hw] at hP1
  exact kk H1 locs1 hP1 hS1
theorem og_iald (hx : p.tables.exec = Jvm.exec) (hb : c.code = cc) (hC : ow_C D ca ad A s) (hP : va_P D vwCl (ow_ws ad w) H) {g i n j : Nat} (hid : (g, i) ∈ ow_ids) {f : Nat → Int32} (he : w g i = .inl (ca 0, n, .inl f)) {x : Int32} (hin : vp_in x n) (hj : x.toNatClampNeg = j) {v : Int32} (hv : f j = v) (hdg : decode cc pc = .ok (.iaload, 1))
    (kk : W p l e R s m args below meth c H locs cells slots Q (F0 m (pc + 1) ls (.int v :: rest))) : W p l e R s m args below meth c H locs cells slots Q (F0 m pc ls (.int x :: .ref (ad g i) :: rest)) := by
  obtain ⟨q, -, hq⟩ := ow_get (ad := ad) (w := w) hid
  rw [he] at hq
  subst hj
  subst hv
  exact va_iald hx hb hC.1 hP q 0 hq rfl hin hdg kk
theorem og_zald (hx : p.tables.exec = Jvm.exec) (hb : c.code = cc) (hC : ow_C D ca ad A s) (hP : va_P D vwCl (ow_ws ad w) H) {g i n j : Nat} (hid : (g, i) ∈ ow_ids) {f : Nat → Int32} (he : w g i = .inl (ca 2, n, .inl f)) {x : Int32} (hin : vp_in x n) (hj : x.toNatClampNeg = j) {v : Int32} (hv : f j = v) (hdg : decode cc pc = .ok (.baload, 1))
    (kk : W p l e R s m args below meth c H locs cells slots Q (F0 m (pc + 1) ls (.int v :: rest))) : W p l e R s m args below meth c H locs cells slots Q (F0 m pc ls (.int x :: .ref (ad g i) :: rest)) := by
  obtain ⟨q, -, hq⟩ := ow_get (ad := ad) (w := w) hid
  rw [he] at hq
  subst hj
  subst hv
  exact va_zald hx hb hC.1 hP q 2 hq rfl hin hdg kk
theorem og_lald (hx : p.tables.exec = Jvm.exec) (hb : c.code = cc) (hC : ow_C D ca ad A s) (hP : va_P D vwCl (ow_ws ad w) H) {g i n j : Nat} (hid : (g, i) ∈ ow_ids) {f : Nat → Int64} (he : w g i = .inl (ca 1, n, .inr (.inl f))) {x : Int32} (hin : vp_in x n) (hj : x.toNatClampNeg = j) {v : Int64} (hv : f j = v) (hdg : decode cc pc = .ok (.laload, 1))
    (kk : W p l e R s m args below meth c H locs cells slots Q (F0 m (pc + 1) ls (.long v :: rest))) : W p l e R s m args below meth c H locs cells slots Q (F0 m pc ls (.int x :: .ref (ad g i) :: rest)) := by
  obtain ⟨q, -, hq⟩ := ow_get (ad := ad) (w := w) hid
  rw [he] at hq
  subst hj
  subst hv
  exact va_lald hx hb hC.1 hP q 1 hq rfl hin hdg kk
theorem og_iast (hx : p.tables.exec = Jvm.exec) (hb : c.code = cc) (hC : ow_C D ca ad A s) (hP : va_P D vwCl (ow_ws ad w) H) (hS : va_S A H0 H locs) {g i n j : Nat} (hid : (g, i) ∈ ow_ids) {f : Nat → Int32} (he : w g i = .inl (ca 0, n, .inl f)) {x v : Int32} (hin : vp_in x n) (hj : x.toNatClampNeg = j) (hw : ow_up w g i (.inl (ca 0, n, .inl (upd f j v))) = w') (hdg : decode cc pc = .ok (.iastore, 1))
    (kk : ∀ (H1 : Heap) (locs1 : List Loc), va_P D vwCl (ow_ws ad w') H1 → va_S A H0 H1 locs1 → W p l e R s m args below meth c H1 locs1 cells slots Q (F0 m (pc + 1) ls rest)) : W p l e R s m args below meth c H locs cells slots Q (F0 m pc ls (.int v :: .int x :: .ref (ad g i) :: rest)) := by
  obtain ⟨q, hq0, hq⟩ := ow_get (ad := ad) (w := w) hid
  rw [he] at hq
  subst hj
  refine va_iast hx hb hC.1 hP (ow_D hC.2.1) hS q 0 hq rfl hin hdg (fun H1 locs1 hP1 _ hS1 => ?_)
  rw [ow_set hq0, hw] at hP1
  exact kk H1 locs1 hP1 hS1
theorem og_zast (hx : p.tables.exec = Jvm.exec) (hb : c.code = cc) (hC : ow_C D ca ad A s) (hP : va_P D vwCl (ow_ws ad w) H) (hS : va_S A H0 H locs) {g i n j : Nat} (hid : (g, i) ∈ ow_ids) {f : Nat → Int32} (he : w g i = .inl (ca 2, n, .inl f)) {x v : Int32} (hin : vp_in x n) (hj : x.toNatClampNeg = j) (hnar : vp_nar .boolean v = v) (hw : ow_up w g i (.inl (ca 2, n, .inl (upd f j v))) = w') (hdg : decode cc pc = .ok (.bastore, 1))
    (kk : ∀ (H1 : Heap) (locs1 : List Loc), va_P D vwCl (ow_ws ad w') H1 → va_S A H0 H1 locs1 → W p l e R s m args below meth c H1 locs1 cells slots Q (F0 m (pc + 1) ls rest)) : W p l e R s m args below meth c H locs cells slots Q (F0 m pc ls (.int v :: .int x :: .ref (ad g i) :: rest)) := by
  obtain ⟨q, hq0, hq⟩ := ow_get (ad := ad) (w := w) hid
  rw [he] at hq
  subst hj
  refine va_zast hx hb hC.1 hP (ow_D hC.2.1) hS q 2 hq rfl hin hdg (fun H1 locs1 hP1 _ hS1 => ?_)
  rw [ow_set hq0, hnar, hw] at hP1
  exact kk H1 locs1 hP1 hS1
theorem og_aald (hx : p.tables.exec = Jvm.exec) (hb : c.code = cc) (hC : ow_C D ca ad A s) (hP : va_P D vwCl (ow_ws ad w) H) {g i n t0 : Nat} {C : String} {cA : ClassId} (hid : (g, i) ∈ ow_ids) {f : Nat → Option Nat} (he : w g i = .inl (cA, n, .inr (.inr (.inr (.inr f))))) (ht : (ow_ty ca)[t0]? = some (cA, .object C)) {x : Int32} (hin : vp_in x n) {v : Nat} (hv : f x.toNatClampNeg = some v) (hdg : decode cc pc = .ok (.aaload, 1))
    (kk : W p l e R s m args below meth c H locs cells slots Q (F0 m (pc + 1) ls (.ref v :: rest))) : W p l e R s m args below meth c H locs cells slots Q (F0 m pc ls (.int x :: .ref (ad g i) :: rest)) := by
  obtain ⟨q, -, hq⟩ := ow_get (ad := ad) (w := w) hid
  rw [he] at hq
  refine va_aldq hx hb hC.1 hP q t0 hq ht hin hdg ?_
  rw [hv]
  exact kk
/-- the calls' runs -/
theorem og_runV {y : MethodName} {bytes : ByteArray} {maxL nL n index g i ci N : Nat} {T : u_T} {ret : Option FieldType} {wy Ts : List Cond} {rm : Room} {Qc : Array Value → State → Outcome → State → Prop} {own C : String} {As : List Value} {st : ow_St} {st0 : List Value} {fs : List Value}
    (S : CallFix p m c cc nL s args Ts own) (hM : Met l y wy rm (va_Pc (.ref (ad g i) :: As) (ow_W D ca ad A st)) Qc 0 0 A) (cw : CallW R s args own C index y bytes maxL ret wy rm 0 0 n) (hC : ow_C D ca ad A s) (hP : va_P D vwCl (ow_ws ad (ow_c ca ad st)) H) (hS : va_S A s.heap H locs) (hid : (g, i) ∈ ow_ids) (he : ow_c ca ad st g i = .inr (ci, fs)) (hc : vwCl[ci]? = some (C, T, N)) (hn : As.length = n) (hsize : ls.size = nL) (hstack : st0 = As.reverse ++ .ref (ad g i) :: rest) (hW : (rest.map fun v => v.category).sum ≤ 8) (hdg : decode cc pc = .ok (.invokevirtual index, 3)) (hf : cells ≤ R.cells ∧ slots ≤ R.slots) :
    va_Run p l e R s m args below meth c H locs cells slots 0 0 (F0 m pc ls st0) rest (Qc (Value.ref (ad g i) :: As).toArray) A := by
  obtain ⟨q, -, hq⟩ := ow_get (ad := ad) (w := ow_c ca ad st) hid
  rw [he] at hq
  subst hstack
  exact va_runV (As := As) (rest := rest) S hM cw ⟨ow_blind D ca ad A st _, va_recv hC.1 hP hc hq, fun U hU hW => ⟨rfl, by rw [hU]; exact hP, hC.go hS hU hW⟩⟩ rfl hn hsize rfl (lv_room (rest := As.reverse ++ .ref (ad g i) :: rest) hW) hdg hf
theorem og_runVN {y : MethodName} {bytes : ByteArray} {maxL nL n index g i ci N : Nat} {T : u_T} {ret : Option FieldType} {wy Ts : List Cond} {rm : Room} {Qc : Array Value → State → Outcome → State → Prop} {own C host : String} {As : List Value} {st : ow_St} {st0 : List Value} {fs : List Value}
    (S : CallFix p m c cc nL s args Ts own) (hM : Met l y wy rm (va_Pc (.ref (ad g i) :: As) (ow_W D ca ad A st)) Qc 0 0 A) (cw : va_CN R s args own index y host bytes maxL ret wy rm 0 0 n ∧ (Cond.instanceMethod y).before args s = true ∧ (Cond.selects C y y).before args s = true) (hC : ow_C D ca ad A s) (hP : va_P D vwCl (ow_ws ad (ow_c ca ad st)) H) (hS : va_S A s.heap H locs) (hid : (g, i) ∈ ow_ids) (he : ow_c ca ad st g i = .inr (ci, fs)) (hc : vwCl[ci]? = some (C, T, N)) (hn : As.length = n) (hsize : ls.size = nL) (hstack : st0 = As.reverse ++ .ref (ad g i) :: rest) (hW : (rest.map fun v => v.category).sum ≤ 8) (hdg : decode cc pc = .ok (.invokevirtual index, 3)) (hf : cells ≤ R.cells ∧ slots ≤ R.slots) :
    va_Run p l e R s m args below meth c H locs cells slots 0 0 (F0 m pc ls st0) rest (Qc (Value.ref (ad g i) :: As).toArray) A := by
  obtain ⟨q, -, hq⟩ := ow_get (ad := ad) (w := ow_c ca ad st) hid
  rw [he] at hq
  subst hstack
  exact va_runVN (As := As) (rest := rest) S hM cw ⟨ow_blind D ca ad A st _, va_recv hC.1 hP hc hq, fun U hU hW => ⟨rfl, by rw [hU]; exact hP, hC.go hS hU hW⟩⟩ rfl hn hsize rfl (lv_room (rest := As.reverse ++ .ref (ad g i) :: rest) hW) hdg hf
theorem og_runS {y : MethodName} {bytes : ByteArray} {maxL nL n index : Nat} {ret : Option FieldType} {wy Ts : List Cond} {rm : Room} {Qc : Array Value → State → Outcome → State → Prop} {own : String} {As : List Value} {st : ow_St} {st0 : List Value}
    (S : CallFix p m c cc nL s args Ts own) (hM : Met l y wy rm (va_Pc As (ow_W D ca ad A st)) Qc 0 0 A) (cw : CallB R s args own index y bytes maxL ret wy rm 0 0 n ∧ (Cond.static y).before args s = true) (hC : ow_C D ca ad A s) (hP : va_P D vwCl (ow_ws ad (ow_c ca ad st)) H) (hS : va_S A s.heap H locs) (hn : As.length = n) (hsize : ls.size = nL) (hstack : st0 = As.reverse ++ rest) (hW : (rest.map fun v => v.category).sum ≤ 8) (hdg : decode cc pc = .ok (.invokestatic index, 3)) (hf : cells ≤ R.cells ∧ slots ≤ R.slots) :
    va_Run p l e R s m args below meth c H locs cells slots 0 0 (F0 m pc ls st0) rest (Qc As.toArray) A := by
  subst hstack
  exact va_runS (As := As) (rest := rest) S hM cw ⟨ow_blind D ca ad A st _, fun U hU hW => ⟨rfl, by rw [hU]; exact hP, hC.go hS hU hW⟩⟩ rfl hn hsize rfl (lv_room (rest := As.reverse ++ rest) hW) hdg hf
theorem og_ci {st0 : List Value} {a : Array Value} {post : Int32 → ow_St → Prop} (hr : va_Run p l e R s m args below meth c H locs cells slots 0 0 (F0 m pc ls st0) rest (va_Qi post (ow_B D ca ad) A a) A) (hS : va_S A s.heap H locs)
    (kk : ∀ (r : Int32) (st' : ow_St) (H1 : Heap) (locs1 : List Loc), post r st' → va_P D vwCl (ow_ws ad (ow_c ca ad st')) H1 → va_S A s.heap H1 locs1 → W p l e R s m args below meth c H1 locs1 cells slots Q (F0 m (pc + 3) ls (.int r :: rest))) : W p l e R s m args below meth c H locs cells slots Q (F0 m pc ls st0) :=
  va_calli hr hS (fun _ _ h => h) (fun _ h => h) (fun r u t H1 locs1 ht _ hp hB _ _ hS1 => kk r u H1 locs1 hp (by rw [← ht]; exact hB) hS1)
theorem og_cl {st0 : List Value} {a : Array Value} {post : Int64 → ow_St → Prop} (hr : va_Run p l e R s m args below meth c H locs cells slots 0 0 (F0 m pc ls st0) rest (va_Ql post (ow_B D ca ad) A a) A) (hS : va_S A s.heap H locs)
    (kk : ∀ (r : Int64) (st' : ow_St) (H1 : Heap) (locs1 : List Loc), post r st' → va_P D vwCl (ow_ws ad (ow_c ca ad st')) H1 → va_S A s.heap H1 locs1 → W p l e R s m args below meth c H1 locs1 cells slots Q (F0 m (pc + 3) ls (.long r :: rest))) : W p l e R s m args below meth c H locs cells slots Q (F0 m pc ls st0) :=
  va_calll hr hS (fun _ _ h => h) (fun _ h => h) (fun r u t H1 locs1 ht _ hp hB _ _ hS1 => kk r u H1 locs1 hp (by rw [← ht]; exact hB) hS1)
theorem og_cv {st0 : List Value} {a : Array Value} {post : ow_St → Prop} (hr : va_Run p l e R s m args below meth c H locs cells slots 0 0 (F0 m pc ls st0) rest (va_Qv post (ow_B D ca ad) A a) A) (hS : va_S A s.heap H locs)
    (kk : ∀ (st' : ow_St) (H1 : Heap) (locs1 : List Loc), post st' → va_P D vwCl (ow_ws ad (ow_c ca ad st')) H1 → va_S A s.heap H1 locs1 → W p l e R s m args below meth c H1 locs1 cells slots Q (F0 m (pc + 3) ls rest)) : W p l e R s m args below meth c H locs cells slots Q (F0 m pc ls st0) :=
  va_callv hr hS (fun _ _ h => h) (fun _ h => h) (fun u t H1 locs1 ht _ hp hB _ _ hS1 => kk u H1 locs1 hp (by rw [← ht]; exact hB) hS1)
theorem og_cq {st0 : List Value} {a : Array Value} {post : Option Nat → ow_St → Prop} (hr : va_Run p l e R s m args below meth c H locs cells slots 0 0 (F0 m pc ls st0) rest (va_Qq post (ow_B D ca ad) A a) A) (hS : va_S A s.heap H locs)
    (kk : ∀ (r : Option Nat) (st' : ow_St) (H1 : Heap) (locs1 : List Loc), post r st' → va_P D vwCl (ow_ws ad (ow_c ca ad st')) H1 → va_S A s.heap H1 locs1 → W p l e R s m args below meth c H1 locs1 cells slots Q (F0 m (pc + 3) ls (va_rf r :: rest))) : W p l e R s m args below meth c H locs cells slots Q (F0 m pc ls st0) :=
  va_callq hr hS (fun _ _ h => h) (fun _ h => h) (fun r u t H1 locs1 ht _ hp hB _ _ hS1 => kk r u H1 locs1 hp (by rw [← ht]; exact hB) hS1)
end OW
theorem ow_m1 {k : Nat} (h : k < 3) : (1, k) ∈ ow_ids := by rcases (show k = 0 ∨ k = 1 ∨ k = 2 by omega) with rfl | rfl | rfl <;> decide
theorem ow_m2 {k : Nat} (h : k < 3) : (2, k) ∈ ow_ids := by rcases (show k = 0 ∨ k = 1 ∨ k = 2 by omega) with rfl | rfl | rfl <;> decide
theorem ow_m3 {k : Nat} (h : k < 3) : (3, k) ∈ ow_ids := by rcases (show k = 0 ∨ k = 1 ∨ k = 2 by omega) with rfl | rfl | rfl <;> decide
theorem ow_m5 {k : Nat} (h : k < 10) : (5, k) ∈ ow_ids := by rcases (show k = 0 ∨ k = 1 ∨ k = 2 ∨ k = 3 ∨ k = 4 ∨ k = 5 ∨ k = 6 ∨ k = 7 ∨ k = 8 ∨ k = 9 by omega) with rfl | rfl | rfl | rfl | rfl | rfl | rfl | rfl | rfl | rfl <;> decide
theorem ow_m8 {k : Nat} (h : k < 8) : (8, k) ∈ ow_ids := by rcases (show k = 0 ∨ k = 1 ∨ k = 2 ∨ k = 3 ∨ k = 4 ∨ k = 5 ∨ k = 6 ∨ k = 7 by omega) with rfl | rfl | rfl | rfl | rfl | rfl | rfl | rfl <;> decide

section OW2
variable {p : Program} {l : Launch} {e : Env} {R : Room} {s : State} {m : MethodId} {args : Array Value} {below : List Frame} {meth : Method} {c : Code} {H : Heap} {locs : List Loc} {cells slots : Nat} {Q : State → Prop}
variable {cc : ByteArray} {pc : Nat} {ls : Array Slot} {rest st0 : List Value} {D : va_G} {A : Nat → Prop} {ca : Nat → ClassId} {ad : ow_Ad} {w w' : Nat → Nat → va_E} {H0 : Heap} {a : Array Value} {st : ow_St}
theorem og_aaldI (hx : p.tables.exec = Jvm.exec) (hb : c.code = cc) (hC : ow_C D ca ad A s) (hP : va_P D vwCl (ow_ws ad w) H) {g i n : Nat} (hid : (g, i) ∈ ow_ids) {f : Nat → Option Nat} (he : w g i = .inl (ca 4, n, .inr (.inr (.inr (.inr f))))) {x : Int32} (hin : vp_in x n) {v : Nat} (hv : f x.toNatClampNeg = some v) (hdg : decode cc pc = .ok (.aaload, 1))
    (kk : W p l e R s m args below meth c H locs cells slots Q (F0 m (pc + 1) ls (.ref v :: rest))) : W p l e R s m args below meth c H locs cells slots Q (F0 m pc ls (.int x :: .ref (ad g i) :: rest)) := by
  obtain ⟨q, -, hq⟩ := ow_get (ad := ad) (w := w) hid
  rw [he] at hq
  have hlt : x.toNatClampNeg < n := Nat.not_le.mp fun q => hin (Or.inr q)
  refine W.aald (v := va_rf (f x.toNatClampNeg)) (ty := .array .int) hx hb (hP q _ hq) ((hC.1.2 4 _ rfl).1 n (fun j => va_rf (f j))) rfl (fun q => by cases q) (by show ¬ (x < 0 ∨ (arrV _ _ _).slots.size ≤ _); rw [arrV_size]; exact hin) (by show (arrV _ _ _).slots[_]? = _; rw [arrV_read _ _ hlt]) rfl rfl hdg ?_
  rw [hv]
  exact kk
theorem og_ciP {F : Int32} (hr : va_Run p l e R s m args below meth c H locs cells slots 0 0 (F0 m pc ls st0) rest (va_Qi (fun r st' => r = F ∧ st' = st) (ow_B D ca ad) A a) A) (hS : va_S A s.heap H locs)
    (kk : ∀ (H1 : Heap) (locs1 : List Loc), va_P D vwCl (ow_ws ad (ow_c ca ad st)) H1 → va_S A s.heap H1 locs1 → W p l e R s m args below meth c H1 locs1 cells slots Q (F0 m (pc + 3) ls (.int F :: rest))) : W p l e R s m args below meth c H locs cells slots Q (F0 m pc ls st0) :=
  og_ci hr hS (fun r st' H1 l1 hp hP1 hS1 => by rw [hp.1]; rw [hp.2] at hP1; exact kk H1 l1 hP1 hS1)
theorem og_clP {F : Int64} (hr : va_Run p l e R s m args below meth c H locs cells slots 0 0 (F0 m pc ls st0) rest (va_Ql (fun r st' => r = F ∧ st' = st) (ow_B D ca ad) A a) A) (hS : va_S A s.heap H locs)
    (kk : ∀ (H1 : Heap) (locs1 : List Loc), va_P D vwCl (ow_ws ad (ow_c ca ad st)) H1 → va_S A s.heap H1 locs1 → W p l e R s m args below meth c H1 locs1 cells slots Q (F0 m (pc + 3) ls (.long F :: rest))) : W p l e R s m args below meth c H locs cells slots Q (F0 m pc ls st0) :=
  og_cl hr hS (fun r st' H1 l1 hp hP1 hS1 => by rw [hp.1]; rw [hp.2] at hP1; exact kk H1 l1 hP1 hS1)
theorem og_cqS {F : Option Nat} {q : Nat} (hr : va_Run p l e R s m args below meth c H locs cells slots 0 0 (F0 m pc ls st0) rest (va_Qq (fun r st' => r = F ∧ st' = st) (ow_B D ca ad) A a) A) (hS : va_S A s.heap H locs) (hF : F = some q)
    (kk : ∀ (H1 : Heap) (locs1 : List Loc), va_P D vwCl (ow_ws ad (ow_c ca ad st)) H1 → va_S A s.heap H1 locs1 → W p l e R s m args below meth c H1 locs1 cells slots Q (F0 m (pc + 3) ls (.ref q :: rest))) : W p l e R s m args below meth c H locs cells slots Q (F0 m pc ls st0) :=
  og_cq hr hS (fun r st' H1 l1 hp hP1 hS1 => by rw [hp.1, hF]; rw [hp.2] at hP1; exact kk H1 l1 hP1 hS1)
theorem og_cqN {F : Option Nat} (hr : va_Run p l e R s m args below meth c H locs cells slots 0 0 (F0 m pc ls st0) rest (va_Qq (fun r st' => r = F ∧ st' = st) (ow_B D ca ad) A a) A) (hS : va_S A s.heap H locs) (hF : F = none)
    (kk : ∀ (H1 : Heap) (locs1 : List Loc), va_P D vwCl (ow_ws ad (ow_c ca ad st)) H1 → va_S A s.heap H1 locs1 → W p l e R s m args below meth c H1 locs1 cells slots Q (F0 m (pc + 3) ls (.null :: rest))) : W p l e R s m args below meth c H locs cells slots Q (F0 m pc ls st0) :=
  og_cq hr hS (fun r st' H1 l1 hp hP1 hS1 => by rw [hp.1, hF]; rw [hp.2] at hP1; exact kk H1 l1 hP1 hS1)
theorem og_ciW {F : Int32 × ow_St} (hr : va_Run p l e R s m args below meth c H locs cells slots 0 0 (F0 m pc ls st0) rest (va_Qi (fun r st' => (r, st') = F) (ow_B D ca ad) A a) A) (hS : va_S A s.heap H locs)
    (kk : ∀ (H1 : Heap) (locs1 : List Loc), va_P D vwCl (ow_ws ad (ow_c ca ad F.2)) H1 → va_S A s.heap H1 locs1 → W p l e R s m args below meth c H1 locs1 cells slots Q (F0 m (pc + 3) ls (.int F.1 :: rest))) : W p l e R s m args below meth c H locs cells slots Q (F0 m pc ls st0) :=
  og_ci hr hS (fun r st' H1 l1 hp hP1 hS1 => by subst hp; exact kk H1 l1 hP1 hS1)
theorem og_clW {F : Int64 × ow_St} (hr : va_Run p l e R s m args below meth c H locs cells slots 0 0 (F0 m pc ls st0) rest (va_Ql (fun r st' => (r, st') = F) (ow_B D ca ad) A a) A) (hS : va_S A s.heap H locs)
    (kk : ∀ (H1 : Heap) (locs1 : List Loc), va_P D vwCl (ow_ws ad (ow_c ca ad F.2)) H1 → va_S A s.heap H1 locs1 → W p l e R s m args below meth c H1 locs1 cells slots Q (F0 m (pc + 3) ls (.long F.1 :: rest))) : W p l e R s m args below meth c H locs cells slots Q (F0 m pc ls st0) :=
  og_cl hr hS (fun r st' H1 l1 hp hP1 hS1 => by subst hp; exact kk H1 l1 hP1 hS1)
theorem og_cvW {F : ow_St} (hr : va_Run p l e R s m args below meth c H locs cells slots 0 0 (F0 m pc ls st0) rest (va_Qv (fun st' => st' = F) (ow_B D ca ad) A a) A) (hS : va_S A s.heap H locs)
    (kk : ∀ (H1 : Heap) (locs1 : List Loc), va_P D vwCl (ow_ws ad (ow_c ca ad F)) H1 → va_S A s.heap H1 locs1 → W p l e R s m args below meth c H1 locs1 cells slots Q (F0 m (pc + 3) ls rest)) : W p l e R s m args below meth c H locs cells slots Q (F0 m pc ls st0) :=
  og_cv hr hS (fun st' H1 l1 hp hP1 hS1 => by subst hp; exact kk H1 l1 hP1 hS1)
end OW2
theorem ow_si_e (st : ow_St) (c i : Nat) (v : Int32) : (ow_si st c i v).1 c i = v := if_pos ⟨rfl, rfl⟩
theorem ow_si_ne {st : ow_St} {c i : Nat} {v : Int32} {c' : Nat} (h : c' ≠ c) : (ow_si st c i v).1 c' = st.1 c' := by
  funext j
  exact if_neg (fun q => h q.1)
theorem ow_si_n2 {st : ow_St} {c i : Nat} {v : Int32} {c' i' : Nat} (h : ¬ (c' = c ∧ i' = i)) : (ow_si st c i v).1 c' i' = st.1 c' i' := if_neg h
theorem ow_si_u (st : ow_St) (c i : Nat) (v : Int32) : (ow_si st c i v).1 c = upd (st.1 c) i v := by
  funext j
  by_cases h : j = i
  · subst h
    simp [ow_si, upd]
  · simp [ow_si, upd, h]
theorem ow_si_l (st : ow_St) (c i : Nat) (v : Int32) : (ow_si st c i v).2.1 = st.2.1 := rfl
theorem ow_si_r (st : ow_St) (c i : Nat) (v : Int32) : (ow_si st c i v).2.2 = st.2.2 := rfl
theorem ow_sl_i (st : ow_St) (i : Nat) (v : Int64) : (ow_sl st i v).1 = st.1 := rfl
theorem ow_sl_r (st : ow_St) (i : Nat) (v : Int64) : (ow_sl st i v).2.2 = st.2.2 := rfl
theorem ow_sl_e (st : ow_St) (i : Nat) (v : Int64) : (ow_sl st i v).2.1 i = v := if_pos rfl
theorem ow_sl_n {st : ow_St} {i : Nat} {v : Int64} {j : Nat} (h : j ≠ i) : (ow_sl st i v).2.1 j = st.2.1 j := if_neg h
theorem ow_sr_i (st : ow_St) (i v : Nat) : (ow_sr st i v).1 = st.1 := rfl
theorem ow_sr_l (st : ow_St) (i v : Nat) : (ow_sr st i v).2.1 = st.2.1 := rfl
theorem ow_sr_e (st : ow_St) (i v : Nat) : (ow_sr st i v).2.2 i = v := if_pos rfl
theorem ow_sr_n {st : ow_St} {i v : Nat} {j : Nat} (h : j ≠ i) : (ow_sr st i v).2.2 j = st.2.2 j := if_neg h
theorem ow_up_at {w : Nat → Nat → va_E} {g i : Nat} {e : va_E} : ow_up w g i e g i = e := if_pos ⟨rfl, rfl⟩
theorem ow_up_no {w : Nat → Nat → va_E} {g i g' i' : Nat} {e : va_E} (h : ¬ (g' = g ∧ i' = i)) : ow_up w g i e g' i' = w g' i' := if_neg h
theorem ow_eqs {w w' : Nat → Nat → va_E} {g i : Nat} {e : va_E} (h1 : e = w' g i) (h2 : ∀ g' i', ¬ (g' = g ∧ i' = i) → w g' i' = w' g' i') : ow_up w g i e = w' := by
  funext g' i'
  by_cases h : g' = g ∧ i' = i
  · obtain ⟨rfl, rfl⟩ := h
    rw [ow_up_at, h1]
  · rw [ow_up_no h, h2 g' i' h]
theorem ow_ne {x : Int32} {n : Int} (c : Int32) (hc : c.toInt = n) (h : ¬ x = c) : x.toInt ≠ n := fun e => h (Int32.toInt_inj.mp (e.trans hc.symm))
theorem ow_b10 {x : Int32} (h1 : ¬ x < 0) (h2 : ¬ 10 ≤ x) : x.toNatClampNeg < 10 := by
  obtain ⟨j, hj, rfl⟩ := nI_of h1
  rw [nI_clamp hj]
  rcases Nat.lt_or_ge j 10 with h | h
  · exact h
  · exact absurd (nI_le (a := 10) h hj) h2
theorem ow_i10 {x : Int32} (h1 : ¬ x < 0) (h2 : ¬ 10 ≤ x) : vp_in x 10 := fun h => by
  have := ow_b10 h1 h2
  rcases h with h | h
  · exact h1 h
  · omega
theorem ow_mn (k : Nat) : mn k < 2 ^ 31 := by
  unfold mn
  split
  · decide
  · split <;> decide
theorem ow_lt {a b : Nat} (h : ¬ nI b ≤ nI a) (hab : a ≤ b) (hb : b < 2 ^ 31) : a < b := by
  rcases Nat.lt_or_ge a b with h1 | h1
  · exact h1
  · exact absurd (nI_le h1 (by omega)) h
theorem ow_in {x : Int32} {n : Nat} (hn : n < 2 ^ 31) (h1 : ¬ x < 0) (h2 : ¬ nI n ≤ x) : vp_in x n := by
  obtain ⟨j, hj, rfl⟩ := nI_of h1
  exact vp_in_nI (by
    rcases Nat.lt_or_ge j n with h | h
    · exact h
    · exact absurd (nI_le h hj) h2) hn

theorem ow_q0_0 : (0, 0) ∈ ow_ids := by decide
theorem ow_q1_0 : (1, 0) ∈ ow_ids := by decide
theorem ow_q1_1 : (1, 1) ∈ ow_ids := by decide
theorem ow_q1_2 : (1, 2) ∈ ow_ids := by decide
theorem ow_q2_0 : (2, 0) ∈ ow_ids := by decide
theorem ow_q2_1 : (2, 1) ∈ ow_ids := by decide
theorem ow_q2_2 : (2, 2) ∈ ow_ids := by decide
theorem ow_q3_0 : (3, 0) ∈ ow_ids := by decide
theorem ow_q3_1 : (3, 1) ∈ ow_ids := by decide
theorem ow_q3_2 : (3, 2) ∈ ow_ids := by decide
theorem ow_q4_0 : (4, 0) ∈ ow_ids := by decide
theorem ow_q5_0 : (5, 0) ∈ ow_ids := by decide
theorem ow_q5_1 : (5, 1) ∈ ow_ids := by decide
theorem ow_q5_2 : (5, 2) ∈ ow_ids := by decide
theorem ow_q5_3 : (5, 3) ∈ ow_ids := by decide
theorem ow_q5_4 : (5, 4) ∈ ow_ids := by decide
theorem ow_q5_5 : (5, 5) ∈ ow_ids := by decide
theorem ow_q5_6 : (5, 6) ∈ ow_ids := by decide
theorem ow_q5_7 : (5, 7) ∈ ow_ids := by decide
theorem ow_q5_8 : (5, 8) ∈ ow_ids := by decide
theorem ow_q5_9 : (5, 9) ∈ ow_ids := by decide
theorem ow_q6_0 : (6, 0) ∈ ow_ids := by decide
theorem ow_q6_1 : (6, 1) ∈ ow_ids := by decide
theorem ow_q7_0 : (7, 0) ∈ ow_ids := by decide
theorem ow_q7_1 : (7, 1) ∈ ow_ids := by decide
theorem ow_q8_0 : (8, 0) ∈ ow_ids := by decide
theorem ow_q8_1 : (8, 1) ∈ ow_ids := by decide
theorem ow_q8_2 : (8, 2) ∈ ow_ids := by decide
theorem ow_q8_3 : (8, 3) ∈ ow_ids := by decide
theorem ow_q8_4 : (8, 4) ∈ ow_ids := by decide
theorem ow_q8_5 : (8, 5) ∈ ow_ids := by decide
theorem ow_q8_6 : (8, 6) ∈ ow_ids := by decide
theorem ow_q8_7 : (8, 7) ∈ ow_ids := by decide
theorem ow_q9_0 : (9, 0) ∈ ow_ids := by decide
theorem ow_q9_1 : (9, 1) ∈ ow_ids := by decide
theorem ow_q9_2 : (9, 2) ∈ ow_ids := by decide
theorem ow_q10_0 : (10, 0) ∈ ow_ids := by decide
theorem ow_q11_0 : (11, 0) ∈ ow_ids := by decide
theorem ow_q11_1 : (11, 1) ∈ ow_ids := by decide
theorem ow_q11_2 : (11, 2) ∈ ow_ids := by decide
theorem ow_q11_3 : (11, 3) ∈ ow_ids := by decide
theorem ow_q11_4 : (11, 4) ∈ ow_ids := by decide
theorem ow_q11_5 : (11, 5) ∈ ow_ids := by decide
theorem ow_q11_6 : (11, 6) ∈ ow_ids := by decide
theorem ow_q11_7 : (11, 7) ∈ ow_ids := by decide
theorem ow_q11_8 : (11, 8) ∈ ow_ids := by decide
theorem ow_q11_9 : (11, 9) ∈ ow_ids := by decide
theorem ow_q11_10 : (11, 10) ∈ ow_ids := by decide
theorem ow_q11_11 : (11, 11) ∈ ow_ids := by decide
theorem ow_q11_12 : (11, 12) ∈ ow_ids := by decide
theorem we_0_0 {ca : Nat → ClassId} {ad : ow_Ad} (st : ow_St) (v : Int32) : ow_up (ow_c ca ad st) 0 0 (.inr (3, [.ref (ad 1 0), .ref (ad 1 1), .ref (ad 1 2), .ref (ad 4 0), .ref (ad 6 0), .ref (ad 6 1), .long (st.2.1 0), .int v, .int (st.1 0 1), .ref (ad 9 0), .ref (ad 9 1), va_rf (ow_pt ad (st.2.2 0)), .ref (ad 9 2), .int (st.1 0 2)])) = ow_c ca ad (ow_si st 0 0 v) := by
  refine ow_eqs ?_ (fun g' i' h => ?_)
  · simp (disch := omega) only [ow_c, ow_si_u, ow_si_ne, ow_si_n2, ow_si_e, ow_si_l, ow_si_r, ow_sl_i, ow_sl_r, ow_sl_e, ow_sl_n, ow_sr_i, ow_sr_l, ow_sr_e, ow_sr_n] <;> rfl
  · unfold ow_c
    split
    all_goals (try split)
    all_goals first | rfl | (simp (disch := omega) only [ow_si_ne, ow_si_n2, ow_si_e, ow_si_l, ow_si_r, ow_sl_i, ow_sl_r, ow_sl_e, ow_sl_n, ow_sr_i, ow_sr_l, ow_sr_e, ow_sr_n]; done) | (exfalso; omega)
theorem we_0_1 {ca : Nat → ClassId} {ad : ow_Ad} (st : ow_St) (v : Int32) : ow_up (ow_c ca ad st) 0 0 (.inr (3, [.ref (ad 1 0), .ref (ad 1 1), .ref (ad 1 2), .ref (ad 4 0), .ref (ad 6 0), .ref (ad 6 1), .long (st.2.1 0), .int (st.1 0 0), .int v, .ref (ad 9 0), .ref (ad 9 1), va_rf (ow_pt ad (st.2.2 0)), .ref (ad 9 2), .int (st.1 0 2)])) = ow_c ca ad (ow_si st 0 1 v) := by
  refine ow_eqs ?_ (fun g' i' h => ?_)
  · simp (disch := omega) only [ow_c, ow_si_u, ow_si_ne, ow_si_n2, ow_si_e, ow_si_l, ow_si_r, ow_sl_i, ow_sl_r, ow_sl_e, ow_sl_n, ow_sr_i, ow_sr_l, ow_sr_e, ow_sr_n] <;> rfl
  · unfold ow_c
    split
    all_goals (try split)
    all_goals first | rfl | (simp (disch := omega) only [ow_si_ne, ow_si_n2, ow_si_e, ow_si_l, ow_si_r, ow_sl_i, ow_sl_r, ow_sl_e, ow_sl_n, ow_sr_i, ow_sr_l, ow_sr_e, ow_sr_n]; done) | (exfalso; omega)
theorem we_0_2 {ca : Nat → ClassId} {ad : ow_Ad} (st : ow_St) (v : Int32) : ow_up (ow_c ca ad st) 0 0 (.inr (3, [.ref (ad 1 0), .ref (ad 1 1), .ref (ad 1 2), .ref (ad 4 0), .ref (ad 6 0), .ref (ad 6 1), .long (st.2.1 0), .int (st.1 0 0), .int (st.1 0 1), .ref (ad 9 0), .ref (ad 9 1), va_rf (ow_pt ad (st.2.2 0)), .ref (ad 9 2), .int v])) = ow_c ca ad (ow_si st 0 2 v) := by
  refine ow_eqs ?_ (fun g' i' h => ?_)
  · simp (disch := omega) only [ow_c, ow_si_u, ow_si_ne, ow_si_n2, ow_si_e, ow_si_l, ow_si_r, ow_sl_i, ow_sl_r, ow_sl_e, ow_sl_n, ow_sr_i, ow_sr_l, ow_sr_e, ow_sr_n] <;> rfl
  · unfold ow_c
    split
    all_goals (try split)
    all_goals first | rfl | (simp (disch := omega) only [ow_si_ne, ow_si_n2, ow_si_e, ow_si_l, ow_si_r, ow_sl_i, ow_sl_r, ow_sl_e, ow_sl_n, ow_sr_i, ow_sr_l, ow_sr_e, ow_sr_n]; done) | (exfalso; omega)
theorem we_0_l {ca : Nat → ClassId} {ad : ow_Ad} (st : ow_St) (v : Int64) : ow_up (ow_c ca ad st) 0 0 (.inr (3, [.ref (ad 1 0), .ref (ad 1 1), .ref (ad 1 2), .ref (ad 4 0), .ref (ad 6 0), .ref (ad 6 1), .long v, .int (st.1 0 0), .int (st.1 0 1), .ref (ad 9 0), .ref (ad 9 1), va_rf (ow_pt ad (st.2.2 0)), .ref (ad 9 2), .int (st.1 0 2)])) = ow_c ca ad (ow_sl st 0 v) := by
  refine ow_eqs ?_ (fun g' i' h => ?_)
  · simp (disch := omega) only [ow_c, ow_si_u, ow_si_ne, ow_si_n2, ow_si_e, ow_si_l, ow_si_r, ow_sl_i, ow_sl_r, ow_sl_e, ow_sl_n, ow_sr_i, ow_sr_l, ow_sr_e, ow_sr_n] <;> rfl
  · unfold ow_c
    split
    all_goals (try split)
    all_goals first | rfl | (simp (disch := omega) only [ow_si_ne, ow_si_n2, ow_si_e, ow_si_l, ow_si_r, ow_sl_i, ow_sl_r, ow_sl_e, ow_sl_n, ow_sr_i, ow_sr_l, ow_sr_e, ow_sr_n]; done) | (exfalso; omega)
theorem we_0_p {ca : Nat → ClassId} {ad : ow_Ad} (st : ow_St) (t : Nat) : ow_up (ow_c ca ad st) 0 0 (.inr (3, [.ref (ad 1 0), .ref (ad 1 1), .ref (ad 1 2), .ref (ad 4 0), .ref (ad 6 0), .ref (ad 6 1), .long (st.2.1 0), .int (st.1 0 0), .int (st.1 0 1), .ref (ad 9 0), .ref (ad 9 1), .ref (ad 6 t), .ref (ad 9 2), .int (st.1 0 2)])) = ow_c ca ad (ow_sr st 0 (t + 1)) := by
  refine ow_eqs ?_ (fun g' i' h => ?_)
  · simp (disch := omega) only [ow_c, ow_si_u, ow_si_ne, ow_si_n2, ow_si_e, ow_si_l, ow_si_r, ow_sl_i, ow_sl_r, ow_sl_e, ow_sl_n, ow_sr_i, ow_sr_l, ow_sr_e, ow_sr_n] <;> rfl
  · unfold ow_c
    split
    all_goals (try split)
    all_goals first | rfl | (simp (disch := omega) only [ow_si_ne, ow_si_n2, ow_si_e, ow_si_l, ow_si_r, ow_sl_i, ow_sl_r, ow_sl_e, ow_sl_n, ow_sr_i, ow_sr_l, ow_sr_e, ow_sr_n]; done) | (exfalso; omega)
theorem we_1_1 {ca : Nat → ClassId} {ad : ow_Ad} (st : ow_St) (k : Nat) (v : Int32) : ow_up (ow_c ca ad st) 1 k (.inr (0, [.int (nI k), .ref (ad 12 k), .int (nI (mn k)), .ref (ad 2 k), .ref (ad 3 k), .int v, .int (st.1 2 k)])) = ow_c ca ad (ow_si st 1 k v) := by
  refine ow_eqs ?_ (fun g' i' h => ?_)
  · simp (disch := omega) only [ow_c, ow_si_u, ow_si_ne, ow_si_n2, ow_si_e, ow_si_l, ow_si_r, ow_sl_i, ow_sl_r, ow_sl_e, ow_sl_n, ow_sr_i, ow_sr_l, ow_sr_e, ow_sr_n] <;> rfl
  · unfold ow_c
    split
    all_goals (try split)
    all_goals first | rfl | (simp (disch := omega) only [ow_si_ne, ow_si_n2, ow_si_e, ow_si_l, ow_si_r, ow_sl_i, ow_sl_r, ow_sl_e, ow_sl_n, ow_sr_i, ow_sr_l, ow_sr_e, ow_sr_n]; done) | (exfalso; omega)
theorem we_1_2 {ca : Nat → ClassId} {ad : ow_Ad} (st : ow_St) (k : Nat) (v : Int32) : ow_up (ow_c ca ad st) 1 k (.inr (0, [.int (nI k), .ref (ad 12 k), .int (nI (mn k)), .ref (ad 2 k), .ref (ad 3 k), .int (st.1 1 k), .int v])) = ow_c ca ad (ow_si st 2 k v) := by
  refine ow_eqs ?_ (fun g' i' h => ?_)
  · simp (disch := omega) only [ow_c, ow_si_u, ow_si_ne, ow_si_n2, ow_si_e, ow_si_l, ow_si_r, ow_sl_i, ow_sl_r, ow_sl_e, ow_sl_n, ow_sr_i, ow_sr_l, ow_sr_e, ow_sr_n] <;> rfl
  · unfold ow_c
    split
    all_goals (try split)
    all_goals first | rfl | (simp (disch := omega) only [ow_si_ne, ow_si_n2, ow_si_e, ow_si_l, ow_si_r, ow_sl_i, ow_sl_r, ow_sl_e, ow_sl_n, ow_sr_i, ow_sr_l, ow_sr_e, ow_sr_n]; done) | (exfalso; omega)
theorem we_5_k {ca : Nat → ClassId} {ad : ow_Ad} (st : ow_St) (k q : Nat) : ow_up (ow_c ca ad st) 5 k (.inr (1, [.ref (ad 1 q), .int (st.1 3 k)])) = ow_c ca ad (ow_sr st (k + 1) q) := by
  refine ow_eqs ?_ (fun g' i' h => ?_)
  · simp (disch := omega) only [ow_c, ow_si_u, ow_si_ne, ow_si_n2, ow_si_e, ow_si_l, ow_si_r, ow_sl_i, ow_sl_r, ow_sl_e, ow_sl_n, ow_sr_i, ow_sr_l, ow_sr_e, ow_sr_n] <;> rfl
  · unfold ow_c
    split
    all_goals (try split)
    all_goals first | rfl | (simp (disch := omega) only [ow_si_ne, ow_si_n2, ow_si_e, ow_si_l, ow_si_r, ow_sl_i, ow_sl_r, ow_sl_e, ow_sl_n, ow_sr_i, ow_sr_l, ow_sr_e, ow_sr_n]; done) | (exfalso; omega)
theorem we_5_m {ca : Nat → ClassId} {ad : ow_Ad} (st : ow_St) (k : Nat) (v : Int32) : ow_up (ow_c ca ad st) 5 k (.inr (1, [.ref (ad 1 (st.2.2 (k + 1))), .int v])) = ow_c ca ad (ow_si st 3 k v) := by
  refine ow_eqs ?_ (fun g' i' h => ?_)
  · simp (disch := omega) only [ow_c, ow_si_u, ow_si_ne, ow_si_n2, ow_si_e, ow_si_l, ow_si_r, ow_sl_i, ow_sl_r, ow_sl_e, ow_sl_n, ow_sr_i, ow_sr_l, ow_sr_e, ow_sr_n] <;> rfl
  · unfold ow_c
    split
    all_goals (try split)
    all_goals first | rfl | (simp (disch := omega) only [ow_si_ne, ow_si_n2, ow_si_e, ow_si_l, ow_si_r, ow_sl_i, ow_sl_r, ow_sl_e, ow_sl_n, ow_sr_i, ow_sr_l, ow_sr_e, ow_sr_n]; done) | (exfalso; omega)
theorem we_6 {ca : Nat → ClassId} {ad : ow_Ad} (st : ow_St) (k : Nat) (v : Int32) : ow_up (ow_c ca ad st) 6 k (.inr (2, [.ref (ad 1 k), .int (nI (3 + k)), .int (nI (1 + 2 * k)), .ref (ad 7 k), .int v])) = ow_c ca ad (ow_si st 4 k v) := by
  refine ow_eqs ?_ (fun g' i' h => ?_)
  · simp (disch := omega) only [ow_c, ow_si_u, ow_si_ne, ow_si_n2, ow_si_e, ow_si_l, ow_si_r, ow_sl_i, ow_sl_r, ow_sl_e, ow_sl_n, ow_sr_i, ow_sr_l, ow_sr_e, ow_sr_n] <;> rfl
  · unfold ow_c
    split
    all_goals (try split)
    all_goals first | rfl | (simp (disch := omega) only [ow_si_ne, ow_si_n2, ow_si_e, ow_si_l, ow_si_r, ow_sl_i, ow_sl_r, ow_sl_e, ow_sl_n, ow_sr_i, ow_sr_l, ow_sr_e, ow_sr_n]; done) | (exfalso; omega)
theorem we_2 {ca : Nat → ClassId} {ad : ow_Ad} (st : ow_St) (k j : Nat) (v : Int32) : ow_up (ow_c ca ad st) 2 k (.inl (ca 0, mn k, .inl (upd (st.1 (100 + 4 * k)) j v))) = ow_c ca ad (ow_si st (100 + 4 * k) j v) := by
  refine ow_eqs ?_ (fun g' i' h => ?_)
  · simp (disch := omega) only [ow_c, ow_si_u, ow_si_ne, ow_si_n2, ow_si_e, ow_si_l, ow_si_r, ow_sl_i, ow_sl_r, ow_sl_e, ow_sl_n, ow_sr_i, ow_sr_l, ow_sr_e, ow_sr_n] <;> rfl
  · unfold ow_c
    split
    all_goals (try split)
    all_goals first | rfl | (simp (disch := omega) only [ow_si_ne, ow_si_n2, ow_si_e, ow_si_l, ow_si_r, ow_sl_i, ow_sl_r, ow_sl_e, ow_sl_n, ow_sr_i, ow_sr_l, ow_sr_e, ow_sr_n]; done) | (exfalso; omega)
theorem we_3 {ca : Nat → ClassId} {ad : ow_Ad} (st : ow_St) (k j : Nat) (v : Int32) : ow_up (ow_c ca ad st) 3 k (.inl (ca 0, mn k, .inl (upd (st.1 (101 + 4 * k)) j v))) = ow_c ca ad (ow_si st (101 + 4 * k) j v) := by
  refine ow_eqs ?_ (fun g' i' h => ?_)
  · simp (disch := omega) only [ow_c, ow_si_u, ow_si_ne, ow_si_n2, ow_si_e, ow_si_l, ow_si_r, ow_sl_i, ow_sl_r, ow_sl_e, ow_sl_n, ow_sr_i, ow_sr_l, ow_sr_e, ow_sr_n] <;> rfl
  · unfold ow_c
    split
    all_goals (try split)
    all_goals first | rfl | (simp (disch := omega) only [ow_si_ne, ow_si_n2, ow_si_e, ow_si_l, ow_si_r, ow_sl_i, ow_sl_r, ow_sl_e, ow_sl_n, ow_sr_i, ow_sr_l, ow_sr_e, ow_sr_n]; done) | (exfalso; omega)
theorem we_8 {ca : Nat → ClassId} {ad : ow_Ad} (st : ow_St) (k j : Nat) (v : Int32) : ow_up (ow_c ca ad st) 8 k (.inl (ca 0, 30, .inl (upd (st.1 (102 + 4 * k)) j v))) = ow_c ca ad (ow_si st (102 + 4 * k) j v) := by
  refine ow_eqs ?_ (fun g' i' h => ?_)
  · simp (disch := omega) only [ow_c, ow_si_u, ow_si_ne, ow_si_n2, ow_si_e, ow_si_l, ow_si_r, ow_sl_i, ow_sl_r, ow_sl_e, ow_sl_n, ow_sr_i, ow_sr_l, ow_sr_e, ow_sr_n] <;> rfl
  · unfold ow_c
    split
    all_goals (try split)
    all_goals first | rfl | (simp (disch := omega) only [ow_si_ne, ow_si_n2, ow_si_e, ow_si_l, ow_si_r, ow_sl_i, ow_sl_r, ow_sl_e, ow_sl_n, ow_sr_i, ow_sr_l, ow_sr_e, ow_sr_n]; done) | (exfalso; omega)
theorem we_9_0 {ca : Nat → ClassId} {ad : ow_Ad} (st : ow_St) (j : Nat) (v : Int32) : ow_up (ow_c ca ad st) 9 0 (.inl (ca 0, 4, .inl (upd (st.1 103) j v))) = ow_c ca ad (ow_si st 103 j v) := by
  refine ow_eqs ?_ (fun g' i' h => ?_)
  · simp (disch := omega) only [ow_c, ow_si_u, ow_si_ne, ow_si_n2, ow_si_e, ow_si_l, ow_si_r, ow_sl_i, ow_sl_r, ow_sl_e, ow_sl_n, ow_sr_i, ow_sr_l, ow_sr_e, ow_sr_n] <;> rfl
  · unfold ow_c
    split
    all_goals (try split)
    all_goals first | rfl | (simp (disch := omega) only [ow_si_ne, ow_si_n2, ow_si_e, ow_si_l, ow_si_r, ow_sl_i, ow_sl_r, ow_sl_e, ow_sl_n, ow_sr_i, ow_sr_l, ow_sr_e, ow_sr_n]; done) | (exfalso; omega)
theorem we_9_1 {ca : Nat → ClassId} {ad : ow_Ad} (st : ow_St) (j : Nat) (v : Int32) : ow_up (ow_c ca ad st) 9 1 (.inl (ca 0, 4, .inl (upd (st.1 107) j v))) = ow_c ca ad (ow_si st 107 j v) := by
  refine ow_eqs ?_ (fun g' i' h => ?_)
  · simp (disch := omega) only [ow_c, ow_si_u, ow_si_ne, ow_si_n2, ow_si_e, ow_si_l, ow_si_r, ow_sl_i, ow_sl_r, ow_sl_e, ow_sl_n, ow_sr_i, ow_sr_l, ow_sr_e, ow_sr_n] <;> rfl
  · unfold ow_c
    split
    all_goals (try split)
    all_goals first | rfl | (simp (disch := omega) only [ow_si_ne, ow_si_n2, ow_si_e, ow_si_l, ow_si_r, ow_sl_i, ow_sl_r, ow_sl_e, ow_sl_n, ow_sr_i, ow_sr_l, ow_sr_e, ow_sr_n]; done) | (exfalso; omega)
theorem we_9_2 {ca : Nat → ClassId} {ad : ow_Ad} (st : ow_St) (j : Nat) (v : Int32) : ow_up (ow_c ca ad st) 9 2 (.inl (ca 0, 30, .inl (upd (st.1 111) j v))) = ow_c ca ad (ow_si st 111 j v) := by
  refine ow_eqs ?_ (fun g' i' h => ?_)
  · simp (disch := omega) only [ow_c, ow_si_u, ow_si_ne, ow_si_n2, ow_si_e, ow_si_l, ow_si_r, ow_sl_i, ow_sl_r, ow_sl_e, ow_sl_n, ow_sr_i, ow_sr_l, ow_sr_e, ow_sr_n] <;> rfl
  · unfold ow_c
    split
    all_goals (try split)
    all_goals first | rfl | (simp (disch := omega) only [ow_si_ne, ow_si_n2, ow_si_e, ow_si_l, ow_si_r, ow_sl_i, ow_sl_r, ow_sl_e, ow_sl_n, ow_sr_i, ow_sr_l, ow_sr_e, ow_sr_n]; done) | (exfalso; omega)
theorem we_10_0 {ca : Nat → ClassId} {ad : ow_Ad} (st : ow_St) (v : Int32) : ow_up (ow_c ca ad st) 10 0 (.inr (4, [.ref (ad 11 0), .ref (ad 11 1), .ref (ad 11 2), .ref (ad 11 3), .ref (ad 11 4), .ref (ad 11 5), .long (st.2.1 1), .int v, .int (st.1 61 1), .ref (ad 11 6), .ref (ad 11 7), .ref (ad 11 8), .ref (ad 11 9), .int (st.1 61 2), .ref (ad 11 10), .int (st.1 61 3), .ref (ad 11 11), .long (st.2.1 2), .ref (ad 11 12)])) = ow_c ca ad (ow_si st 61 0 v) := by
  refine ow_eqs ?_ (fun g' i' h => ?_)
  · simp (disch := omega) only [ow_c, ow_si_u, ow_si_ne, ow_si_n2, ow_si_e, ow_si_l, ow_si_r, ow_sl_i, ow_sl_r, ow_sl_e, ow_sl_n, ow_sr_i, ow_sr_l, ow_sr_e, ow_sr_n] <;> rfl
  · unfold ow_c
    split
    all_goals (try split)
    all_goals first | rfl | (simp (disch := omega) only [ow_si_ne, ow_si_n2, ow_si_e, ow_si_l, ow_si_r, ow_sl_i, ow_sl_r, ow_sl_e, ow_sl_n, ow_sr_i, ow_sr_l, ow_sr_e, ow_sr_n]; done) | (exfalso; omega)
theorem we_10_1 {ca : Nat → ClassId} {ad : ow_Ad} (st : ow_St) (v : Int32) : ow_up (ow_c ca ad st) 10 0 (.inr (4, [.ref (ad 11 0), .ref (ad 11 1), .ref (ad 11 2), .ref (ad 11 3), .ref (ad 11 4), .ref (ad 11 5), .long (st.2.1 1), .int (st.1 61 0), .int v, .ref (ad 11 6), .ref (ad 11 7), .ref (ad 11 8), .ref (ad 11 9), .int (st.1 61 2), .ref (ad 11 10), .int (st.1 61 3), .ref (ad 11 11), .long (st.2.1 2), .ref (ad 11 12)])) = ow_c ca ad (ow_si st 61 1 v) := by
  refine ow_eqs ?_ (fun g' i' h => ?_)
  · simp (disch := omega) only [ow_c, ow_si_u, ow_si_ne, ow_si_n2, ow_si_e, ow_si_l, ow_si_r, ow_sl_i, ow_sl_r, ow_sl_e, ow_sl_n, ow_sr_i, ow_sr_l, ow_sr_e, ow_sr_n] <;> rfl
  · unfold ow_c
    split
    all_goals (try split)
    all_goals first | rfl | (simp (disch := omega) only [ow_si_ne, ow_si_n2, ow_si_e, ow_si_l, ow_si_r, ow_sl_i, ow_sl_r, ow_sl_e, ow_sl_n, ow_sr_i, ow_sr_l, ow_sr_e, ow_sr_n]; done) | (exfalso; omega)
theorem we_10_2 {ca : Nat → ClassId} {ad : ow_Ad} (st : ow_St) (v : Int32) : ow_up (ow_c ca ad st) 10 0 (.inr (4, [.ref (ad 11 0), .ref (ad 11 1), .ref (ad 11 2), .ref (ad 11 3), .ref (ad 11 4), .ref (ad 11 5), .long (st.2.1 1), .int (st.1 61 0), .int (st.1 61 1), .ref (ad 11 6), .ref (ad 11 7), .ref (ad 11 8), .ref (ad 11 9), .int v, .ref (ad 11 10), .int (st.1 61 3), .ref (ad 11 11), .long (st.2.1 2), .ref (ad 11 12)])) = ow_c ca ad (ow_si st 61 2 v) := by
  refine ow_eqs ?_ (fun g' i' h => ?_)
  · simp (disch := omega) only [ow_c, ow_si_u, ow_si_ne, ow_si_n2, ow_si_e, ow_si_l, ow_si_r, ow_sl_i, ow_sl_r, ow_sl_e, ow_sl_n, ow_sr_i, ow_sr_l, ow_sr_e, ow_sr_n] <;> rfl
  · unfold ow_c
    split
    all_goals (try split)
    all_goals first | rfl | (simp (disch := omega) only [ow_si_ne, ow_si_n2, ow_si_e, ow_si_l, ow_si_r, ow_sl_i, ow_sl_r, ow_sl_e, ow_sl_n, ow_sr_i, ow_sr_l, ow_sr_e, ow_sr_n]; done) | (exfalso; omega)
theorem we_10_3 {ca : Nat → ClassId} {ad : ow_Ad} (st : ow_St) (v : Int32) : ow_up (ow_c ca ad st) 10 0 (.inr (4, [.ref (ad 11 0), .ref (ad 11 1), .ref (ad 11 2), .ref (ad 11 3), .ref (ad 11 4), .ref (ad 11 5), .long (st.2.1 1), .int (st.1 61 0), .int (st.1 61 1), .ref (ad 11 6), .ref (ad 11 7), .ref (ad 11 8), .ref (ad 11 9), .int (st.1 61 2), .ref (ad 11 10), .int v, .ref (ad 11 11), .long (st.2.1 2), .ref (ad 11 12)])) = ow_c ca ad (ow_si st 61 3 v) := by
  refine ow_eqs ?_ (fun g' i' h => ?_)
  · simp (disch := omega) only [ow_c, ow_si_u, ow_si_ne, ow_si_n2, ow_si_e, ow_si_l, ow_si_r, ow_sl_i, ow_sl_r, ow_sl_e, ow_sl_n, ow_sr_i, ow_sr_l, ow_sr_e, ow_sr_n] <;> rfl
  · unfold ow_c
    split
    all_goals (try split)
    all_goals first | rfl | (simp (disch := omega) only [ow_si_ne, ow_si_n2, ow_si_e, ow_si_l, ow_si_r, ow_sl_i, ow_sl_r, ow_sl_e, ow_sl_n, ow_sr_i, ow_sr_l, ow_sr_e, ow_sr_n]; done) | (exfalso; omega)
theorem we_10_l1 {ca : Nat → ClassId} {ad : ow_Ad} (st : ow_St) (v : Int64) : ow_up (ow_c ca ad st) 10 0 (.inr (4, [.ref (ad 11 0), .ref (ad 11 1), .ref (ad 11 2), .ref (ad 11 3), .ref (ad 11 4), .ref (ad 11 5), .long v, .int (st.1 61 0), .int (st.1 61 1), .ref (ad 11 6), .ref (ad 11 7), .ref (ad 11 8), .ref (ad 11 9), .int (st.1 61 2), .ref (ad 11 10), .int (st.1 61 3), .ref (ad 11 11), .long (st.2.1 2), .ref (ad 11 12)])) = ow_c ca ad (ow_sl st 1 v) := by
  refine ow_eqs ?_ (fun g' i' h => ?_)
  · simp (disch := omega) only [ow_c, ow_si_u, ow_si_ne, ow_si_n2, ow_si_e, ow_si_l, ow_si_r, ow_sl_i, ow_sl_r, ow_sl_e, ow_sl_n, ow_sr_i, ow_sr_l, ow_sr_e, ow_sr_n] <;> rfl
  · unfold ow_c
    split
    all_goals (try split)
    all_goals first | rfl | (simp (disch := omega) only [ow_si_ne, ow_si_n2, ow_si_e, ow_si_l, ow_si_r, ow_sl_i, ow_sl_r, ow_sl_e, ow_sl_n, ow_sr_i, ow_sr_l, ow_sr_e, ow_sr_n]; done) | (exfalso; omega)
theorem we_10_l2 {ca : Nat → ClassId} {ad : ow_Ad} (st : ow_St) (v : Int64) : ow_up (ow_c ca ad st) 10 0 (.inr (4, [.ref (ad 11 0), .ref (ad 11 1), .ref (ad 11 2), .ref (ad 11 3), .ref (ad 11 4), .ref (ad 11 5), .long (st.2.1 1), .int (st.1 61 0), .int (st.1 61 1), .ref (ad 11 6), .ref (ad 11 7), .ref (ad 11 8), .ref (ad 11 9), .int (st.1 61 2), .ref (ad 11 10), .int (st.1 61 3), .ref (ad 11 11), .long v, .ref (ad 11 12)])) = ow_c ca ad (ow_sl st 2 v) := by
  refine ow_eqs ?_ (fun g' i' h => ?_)
  · simp (disch := omega) only [ow_c, ow_si_u, ow_si_ne, ow_si_n2, ow_si_e, ow_si_l, ow_si_r, ow_sl_i, ow_sl_r, ow_sl_e, ow_sl_n, ow_sr_i, ow_sr_l, ow_sr_e, ow_sr_n] <;> rfl
  · unfold ow_c
    split
    all_goals (try split)
    all_goals first | rfl | (simp (disch := omega) only [ow_si_ne, ow_si_n2, ow_si_e, ow_si_l, ow_si_r, ow_sl_i, ow_sl_r, ow_sl_e, ow_sl_n, ow_sr_i, ow_sr_l, ow_sr_e, ow_sr_n]; done) | (exfalso; omega)
theorem we_11_2 {ca : Nat → ClassId} {ad : ow_Ad} (st : ow_St) (j : Nat) (v : Int32) : ow_up (ow_c ca ad st) 11 2 (.inl (ca 0, 78, .inl (upd (st.1 50) j v))) = ow_c ca ad (ow_si st 50 j v) := by
  refine ow_eqs ?_ (fun g' i' h => ?_)
  · simp (disch := omega) only [ow_c, ow_si_u, ow_si_ne, ow_si_n2, ow_si_e, ow_si_l, ow_si_r, ow_sl_i, ow_sl_r, ow_sl_e, ow_sl_n, ow_sr_i, ow_sr_l, ow_sr_e, ow_sr_n] <;> rfl
  · unfold ow_c
    split
    all_goals (try split)
    all_goals first | rfl | (simp (disch := omega) only [ow_si_ne, ow_si_n2, ow_si_e, ow_si_l, ow_si_r, ow_sl_i, ow_sl_r, ow_sl_e, ow_sl_n, ow_sr_i, ow_sr_l, ow_sr_e, ow_sr_n]; done) | (exfalso; omega)
theorem we_11_3 {ca : Nat → ClassId} {ad : ow_Ad} (st : ow_St) (j : Nat) (v : Int32) : ow_up (ow_c ca ad st) 11 3 (.inl (ca 0, 78, .inl (upd (st.1 51) j v))) = ow_c ca ad (ow_si st 51 j v) := by
  refine ow_eqs ?_ (fun g' i' h => ?_)
  · simp (disch := omega) only [ow_c, ow_si_u, ow_si_ne, ow_si_n2, ow_si_e, ow_si_l, ow_si_r, ow_sl_i, ow_sl_r, ow_sl_e, ow_sl_n, ow_sr_i, ow_sr_l, ow_sr_e, ow_sr_n] <;> rfl
  · unfold ow_c
    split
    all_goals (try split)
    all_goals first | rfl | (simp (disch := omega) only [ow_si_ne, ow_si_n2, ow_si_e, ow_si_l, ow_si_r, ow_sl_i, ow_sl_r, ow_sl_e, ow_sl_n, ow_sr_i, ow_sr_l, ow_sr_e, ow_sr_n]; done) | (exfalso; omega)
theorem we_11_4 {ca : Nat → ClassId} {ad : ow_Ad} (st : ow_St) (j : Nat) (v : Int32) : ow_up (ow_c ca ad st) 11 4 (.inl (ca 0, 3, .inl (upd (st.1 52) j v))) = ow_c ca ad (ow_si st 52 j v) := by
  refine ow_eqs ?_ (fun g' i' h => ?_)
  · simp (disch := omega) only [ow_c, ow_si_u, ow_si_ne, ow_si_n2, ow_si_e, ow_si_l, ow_si_r, ow_sl_i, ow_sl_r, ow_sl_e, ow_sl_n, ow_sr_i, ow_sr_l, ow_sr_e, ow_sr_n] <;> rfl
  · unfold ow_c
    split
    all_goals (try split)
    all_goals first | rfl | (simp (disch := omega) only [ow_si_ne, ow_si_n2, ow_si_e, ow_si_l, ow_si_r, ow_sl_i, ow_sl_r, ow_sl_e, ow_sl_n, ow_sr_i, ow_sr_l, ow_sr_e, ow_sr_n]; done) | (exfalso; omega)
theorem we_11_5 {ca : Nat → ClassId} {ad : ow_Ad} (st : ow_St) (j : Nat) (v : Int32) : ow_up (ow_c ca ad st) 11 5 (.inl (ca 2, 3, .inl (upd (st.1 53) j v))) = ow_c ca ad (ow_si st 53 j v) := by
  refine ow_eqs ?_ (fun g' i' h => ?_)
  · simp (disch := omega) only [ow_c, ow_si_u, ow_si_ne, ow_si_n2, ow_si_e, ow_si_l, ow_si_r, ow_sl_i, ow_sl_r, ow_sl_e, ow_sl_n, ow_sr_i, ow_sr_l, ow_sr_e, ow_sr_n] <;> rfl
  · unfold ow_c
    split
    all_goals (try split)
    all_goals first | rfl | (simp (disch := omega) only [ow_si_ne, ow_si_n2, ow_si_e, ow_si_l, ow_si_r, ow_sl_i, ow_sl_r, ow_sl_e, ow_sl_n, ow_sr_i, ow_sr_l, ow_sr_e, ow_sr_n]; done) | (exfalso; omega)
theorem we_11_6 {ca : Nat → ClassId} {ad : ow_Ad} (st : ow_St) (j : Nat) (v : Int32) : ow_up (ow_c ca ad st) 11 6 (.inl (ca 0, 10, .inl (upd (st.1 54) j v))) = ow_c ca ad (ow_si st 54 j v) := by
  refine ow_eqs ?_ (fun g' i' h => ?_)
  · simp (disch := omega) only [ow_c, ow_si_u, ow_si_ne, ow_si_n2, ow_si_e, ow_si_l, ow_si_r, ow_sl_i, ow_sl_r, ow_sl_e, ow_sl_n, ow_sr_i, ow_sr_l, ow_sr_e, ow_sr_n] <;> rfl
  · unfold ow_c
    split
    all_goals (try split)
    all_goals first | rfl | (simp (disch := omega) only [ow_si_ne, ow_si_n2, ow_si_e, ow_si_l, ow_si_r, ow_sl_i, ow_sl_r, ow_sl_e, ow_sl_n, ow_sr_i, ow_sr_l, ow_sr_e, ow_sr_n]; done) | (exfalso; omega)
theorem we_11_7 {ca : Nat → ClassId} {ad : ow_Ad} (st : ow_St) (j : Nat) (v : Int32) : ow_up (ow_c ca ad st) 11 7 (.inl (ca 0, 10, .inl (upd (st.1 55) j v))) = ow_c ca ad (ow_si st 55 j v) := by
  refine ow_eqs ?_ (fun g' i' h => ?_)
  · simp (disch := omega) only [ow_c, ow_si_u, ow_si_ne, ow_si_n2, ow_si_e, ow_si_l, ow_si_r, ow_sl_i, ow_sl_r, ow_sl_e, ow_sl_n, ow_sr_i, ow_sr_l, ow_sr_e, ow_sr_n] <;> rfl
  · unfold ow_c
    split
    all_goals (try split)
    all_goals first | rfl | (simp (disch := omega) only [ow_si_ne, ow_si_n2, ow_si_e, ow_si_l, ow_si_r, ow_sl_i, ow_sl_r, ow_sl_e, ow_sl_n, ow_sr_i, ow_sr_l, ow_sr_e, ow_sr_n]; done) | (exfalso; omega)
theorem we_11_8 {ca : Nat → ClassId} {ad : ow_Ad} (st : ow_St) (j : Nat) (v : Int32) : ow_up (ow_c ca ad st) 11 8 (.inl (ca 0, 2, .inl (upd (st.1 56) j v))) = ow_c ca ad (ow_si st 56 j v) := by
  refine ow_eqs ?_ (fun g' i' h => ?_)
  · simp (disch := omega) only [ow_c, ow_si_u, ow_si_ne, ow_si_n2, ow_si_e, ow_si_l, ow_si_r, ow_sl_i, ow_sl_r, ow_sl_e, ow_sl_n, ow_sr_i, ow_sr_l, ow_sr_e, ow_sr_n] <;> rfl
  · unfold ow_c
    split
    all_goals (try split)
    all_goals first | rfl | (simp (disch := omega) only [ow_si_ne, ow_si_n2, ow_si_e, ow_si_l, ow_si_r, ow_sl_i, ow_sl_r, ow_sl_e, ow_sl_n, ow_sr_i, ow_sr_l, ow_sr_e, ow_sr_n]; done) | (exfalso; omega)
theorem we_11_9 {ca : Nat → ClassId} {ad : ow_Ad} (st : ow_St) (j : Nat) (v : Int32) : ow_up (ow_c ca ad st) 11 9 (.inl (ca 0, 240, .inl (upd (st.1 57) j v))) = ow_c ca ad (ow_si st 57 j v) := by
  refine ow_eqs ?_ (fun g' i' h => ?_)
  · simp (disch := omega) only [ow_c, ow_si_u, ow_si_ne, ow_si_n2, ow_si_e, ow_si_l, ow_si_r, ow_sl_i, ow_sl_r, ow_sl_e, ow_sl_n, ow_sr_i, ow_sr_l, ow_sr_e, ow_sr_n] <;> rfl
  · unfold ow_c
    split
    all_goals (try split)
    all_goals first | rfl | (simp (disch := omega) only [ow_si_ne, ow_si_n2, ow_si_e, ow_si_l, ow_si_r, ow_sl_i, ow_sl_r, ow_sl_e, ow_sl_n, ow_sr_i, ow_sr_l, ow_sr_e, ow_sr_n]; done) | (exfalso; omega)
theorem we_11_10 {ca : Nat → ClassId} {ad : ow_Ad} (st : ow_St) (j : Nat) (v : Int32) : ow_up (ow_c ca ad st) 11 10 (.inl (ca 0, 4, .inl (upd (st.1 58) j v))) = ow_c ca ad (ow_si st 58 j v) := by
  refine ow_eqs ?_ (fun g' i' h => ?_)
  · simp (disch := omega) only [ow_c, ow_si_u, ow_si_ne, ow_si_n2, ow_si_e, ow_si_l, ow_si_r, ow_sl_i, ow_sl_r, ow_sl_e, ow_sl_n, ow_sr_i, ow_sr_l, ow_sr_e, ow_sr_n] <;> rfl
  · unfold ow_c
    split
    all_goals (try split)
    all_goals first | rfl | (simp (disch := omega) only [ow_si_ne, ow_si_n2, ow_si_e, ow_si_l, ow_si_r, ow_sl_i, ow_sl_r, ow_sl_e, ow_sl_n, ow_sr_i, ow_sr_l, ow_sr_e, ow_sr_n]; done) | (exfalso; omega)
theorem we_11_11 {ca : Nat → ClassId} {ad : ow_Ad} (st : ow_St) (j : Nat) (v : Int32) : ow_up (ow_c ca ad st) 11 11 (.inl (ca 0, 30, .inl (upd (st.1 59) j v))) = ow_c ca ad (ow_si st 59 j v) := by
  refine ow_eqs ?_ (fun g' i' h => ?_)
  · simp (disch := omega) only [ow_c, ow_si_u, ow_si_ne, ow_si_n2, ow_si_e, ow_si_l, ow_si_r, ow_sl_i, ow_sl_r, ow_sl_e, ow_sl_n, ow_sr_i, ow_sr_l, ow_sr_e, ow_sr_n] <;> rfl
  · unfold ow_c
    split
    all_goals (try split)
    all_goals first | rfl | (simp (disch := omega) only [ow_si_ne, ow_si_n2, ow_si_e, ow_si_l, ow_si_r, ow_sl_i, ow_sl_r, ow_sl_e, ow_sl_n, ow_sr_i, ow_sr_l, ow_sr_e, ow_sr_n]; done) | (exfalso; omega)
theorem we_11_12 {ca : Nat → ClassId} {ad : ow_Ad} (st : ow_St) (j : Nat) (v : Int32) : ow_up (ow_c ca ad st) 11 12 (.inl (ca 0, 4, .inl (upd (st.1 60) j v))) = ow_c ca ad (ow_si st 60 j v) := by
  refine ow_eqs ?_ (fun g' i' h => ?_)
  · simp (disch := omega) only [ow_c, ow_si_u, ow_si_ne, ow_si_n2, ow_si_e, ow_si_l, ow_si_r, ow_sl_i, ow_sl_r, ow_sl_e, ow_sl_n, ow_sr_i, ow_sr_l, ow_sr_e, ow_sr_n] <;> rfl
  · unfold ow_c
    split
    all_goals (try split)
    all_goals first | rfl | (simp (disch := omega) only [ow_si_ne, ow_si_n2, ow_si_e, ow_si_l, ow_si_r, ow_sl_i, ow_sl_r, ow_sl_e, ow_sl_n, ow_sr_i, ow_sr_l, ow_sr_e, ow_sr_n]; done) | (exfalso; omega)
