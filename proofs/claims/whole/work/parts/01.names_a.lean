-- ===== PART A: goes FIRST, ahead of the names: the tables' words, and 'selects' of the private methods out of them =====
/-- a private method of a class that the tables say can be made, by its rows of tables_1 -/
def lw_okq (q : MethodName × Nat) : Prop := (q.1.cls ≠ "java/lang/invoke/MethodHandle" ∧ q.1.cls ≠ "java/lang/invoke/VarHandle") ∧ Cond.instantiable q.1.cls q.2 ∈ tables_1 ∧ Cond.privateMethod q.1 ∈ tables_1 ∧ Cond.instanceMethod q.1 ∈ tables_1
theorem lw_p0 : lw_okq (⟨"RecordLabels", "kindNumbered", "(I)LRecordLabels$Kind;"⟩, 14) := ⟨⟨by decide +kernel, by decide +kernel⟩, List.mem_of_getElem? (i := 8) (by decide +kernel), List.mem_of_getElem? (i := 147) (by decide +kernel), List.mem_of_getElem? (i := 148) (by decide +kernel)⟩
theorem lw_p1 : lw_okq (⟨"RecordLabels$Kind", "constantNamed", "(J)I"⟩, 7) := ⟨⟨by decide +kernel, by decide +kernel⟩, List.mem_of_getElem? (i := 16) (by decide +kernel), List.mem_of_getElem? (i := 151) (by decide +kernel), List.mem_of_getElem? (i := 152) (by decide +kernel)⟩
theorem lw_p2 : lw_okq (⟨"RecordLabels$Kind", "codeOf", "(I)I"⟩, 7) := ⟨⟨by decide +kernel, by decide +kernel⟩, List.mem_of_getElem? (i := 16) (by decide +kernel), List.mem_of_getElem? (i := 155) (by decide +kernel), List.mem_of_getElem? (i := 156) (by decide +kernel)⟩
theorem lw_p3 : lw_okq (⟨"RecordLabels$Kind", "has", "(I)Z"⟩, 7) := ⟨⟨by decide +kernel, by decide +kernel⟩, List.mem_of_getElem? (i := 16) (by decide +kernel), List.mem_of_getElem? (i := 159) (by decide +kernel), List.mem_of_getElem? (i := 160) (by decide +kernel)⟩
theorem lw_p4 : lw_okq (⟨"RecordLabels$Kind", "constantOf", "(I)I"⟩, 7) := ⟨⟨by decide +kernel, by decide +kernel⟩, List.mem_of_getElem? (i := 16) (by decide +kernel), List.mem_of_getElem? (i := 167) (by decide +kernel), List.mem_of_getElem? (i := 168) (by decide +kernel)⟩
theorem lw_p5 : lw_okq (⟨"RecordLabels$Kind", "nameOf", "(I)J"⟩, 7) := ⟨⟨by decide +kernel, by decide +kernel⟩, List.mem_of_getElem? (i := 16) (by decide +kernel), List.mem_of_getElem? (i := 171) (by decide +kernel), List.mem_of_getElem? (i := 172) (by decide +kernel)⟩
theorem lw_p6 : lw_okq (⟨"RecordLabels$Kind", "exchange", "(II)V"⟩, 7) := ⟨⟨by decide +kernel, by decide +kernel⟩, List.mem_of_getElem? (i := 16) (by decide +kernel), List.mem_of_getElem? (i := 180) (by decide +kernel), List.mem_of_getElem? (i := 181) (by decide +kernel)⟩
theorem lw_p7 : lw_okq (⟨"RecordLabels$Kind", "giveCode", "(II)V"⟩, 7) := ⟨⟨by decide +kernel, by decide +kernel⟩, List.mem_of_getElem? (i := 16) (by decide +kernel), List.mem_of_getElem? (i := 185) (by decide +kernel), List.mem_of_getElem? (i := 186) (by decide +kernel)⟩
theorem lw_p8 : lw_okq (⟨"RecordLabels", "askRule", "(LRecordLabels$Kind;IJ)I"⟩, 14) := ⟨⟨by decide +kernel, by decide +kernel⟩, List.mem_of_getElem? (i := 8) (by decide +kernel), List.mem_of_getElem? (i := 193) (by decide +kernel), List.mem_of_getElem? (i := 194) (by decide +kernel)⟩
theorem lw_p9 : lw_okq (⟨"RecordLabels$Kind", "startForRule", "()I"⟩, 7) := ⟨⟨by decide +kernel, by decide +kernel⟩, List.mem_of_getElem? (i := 16) (by decide +kernel), List.mem_of_getElem? (i := 197) (by decide +kernel), List.mem_of_getElem? (i := 198) (by decide +kernel)⟩
theorem lw_p10 : lw_okq (⟨"RecordLabels", "setNumbered", "(I)LRecordLabels$LabelSet;"⟩, 14) := ⟨⟨by decide +kernel, by decide +kernel⟩, List.mem_of_getElem? (i := 8) (by decide +kernel), List.mem_of_getElem? (i := 237) (by decide +kernel), List.mem_of_getElem? (i := 238) (by decide +kernel)⟩
theorem lw_p11 : lw_okq (⟨"RecordLabels$LabelSet", "size", "()I"⟩, 2) := ⟨⟨by decide +kernel, by decide +kernel⟩, List.mem_of_getElem? (i := 85) (by decide +kernel), List.mem_of_getElem? (i := 241) (by decide +kernel), List.mem_of_getElem? (i := 242) (by decide +kernel)⟩
theorem lw_p12 : lw_okq (⟨"RecordLabels$LabelSet", "become", "(LRecordLabels$Kind;I)V"⟩, 2) := ⟨⟨by decide +kernel, by decide +kernel⟩, List.mem_of_getElem? (i := 85) (by decide +kernel), List.mem_of_getElem? (i := 251) (by decide +kernel), List.mem_of_getElem? (i := 252) (by decide +kernel)⟩
theorem lw_p13 : lw_okq (⟨"RecordLabels$LabelSet", "holds", "(I)Z"⟩, 2) := ⟨⟨by decide +kernel, by decide +kernel⟩, List.mem_of_getElem? (i := 85) (by decide +kernel), List.mem_of_getElem? (i := 259) (by decide +kernel), List.mem_of_getElem? (i := 260) (by decide +kernel)⟩
theorem lw_p14 : lw_okq (⟨"RecordLabels", "tableNumbered", "(I)LRecordLabels$Table;"⟩, 14) := ⟨⟨by decide +kernel, by decide +kernel⟩, List.mem_of_getElem? (i := 8) (by decide +kernel), List.mem_of_getElem? (i := 283) (by decide +kernel), List.mem_of_getElem? (i := 284) (by decide +kernel)⟩
theorem lw_p15 : lw_okq (⟨"RecordLabels", "toCell", "(LRecordLabels$Table;II)I"⟩, 14) := ⟨⟨by decide +kernel, by decide +kernel⟩, List.mem_of_getElem? (i := 8) (by decide +kernel), List.mem_of_getElem? (i := 287) (by decide +kernel), List.mem_of_getElem? (i := 288) (by decide +kernel)⟩
def lw_privs_1 : List (MethodName × Nat) := [(⟨"RecordLabels", "kindNumbered", "(I)LRecordLabels$Kind;"⟩, 14), (⟨"RecordLabels$Kind", "constantNamed", "(J)I"⟩, 7), (⟨"RecordLabels$Kind", "codeOf", "(I)I"⟩, 7), (⟨"RecordLabels$Kind", "has", "(I)Z"⟩, 7), (⟨"RecordLabels$Kind", "constantOf", "(I)I"⟩, 7), (⟨"RecordLabels$Kind", "nameOf", "(I)J"⟩, 7), (⟨"RecordLabels$Kind", "exchange", "(II)V"⟩, 7), (⟨"RecordLabels$Kind", "giveCode", "(II)V"⟩, 7), (⟨"RecordLabels", "askRule", "(LRecordLabels$Kind;IJ)I"⟩, 14), (⟨"RecordLabels$Kind", "startForRule", "()I"⟩, 7), (⟨"RecordLabels", "setNumbered", "(I)LRecordLabels$LabelSet;"⟩, 14), (⟨"RecordLabels$LabelSet", "size", "()I"⟩, 2), (⟨"RecordLabels$LabelSet", "become", "(LRecordLabels$Kind;I)V"⟩, 2), (⟨"RecordLabels$LabelSet", "holds", "(I)Z"⟩, 2), (⟨"RecordLabels", "tableNumbered", "(I)LRecordLabels$Table;"⟩, 14), (⟨"RecordLabels", "toCell", "(LRecordLabels$Table;II)I"⟩, 14)]
theorem lw_r1 : ∀ q ∈ lw_privs_1, lw_okq q := List.forall_mem_cons.mpr ⟨lw_p0, List.forall_mem_cons.mpr ⟨lw_p1, List.forall_mem_cons.mpr ⟨lw_p2, List.forall_mem_cons.mpr ⟨lw_p3, List.forall_mem_cons.mpr ⟨lw_p4, List.forall_mem_cons.mpr ⟨lw_p5, List.forall_mem_cons.mpr ⟨lw_p6, List.forall_mem_cons.mpr ⟨lw_p7, List.forall_mem_cons.mpr ⟨lw_p8, List.forall_mem_cons.mpr ⟨lw_p9, List.forall_mem_cons.mpr ⟨lw_p10, List.forall_mem_cons.mpr ⟨lw_p11, List.forall_mem_cons.mpr ⟨lw_p12, List.forall_mem_cons.mpr ⟨lw_p13, List.forall_mem_cons.mpr ⟨lw_p14, List.forall_mem_cons.mpr ⟨lw_p15, fun _ h => absurd h List.not_mem_nil⟩⟩⟩⟩⟩⟩⟩⟩⟩⟩⟩⟩⟩⟩⟩⟩
theorem lw_p16 : lw_okq (⟨"RecordLabels", "kindOfItem", "(LRecordLabels$Table;I)LRecordLabels$Kind;"⟩, 14) := ⟨⟨by decide +kernel, by decide +kernel⟩, List.mem_of_getElem? (i := 8) (by decide +kernel), List.mem_of_getElem? (i := 291) (by decide +kernel), List.mem_of_getElem? (i := 292) (by decide +kernel)⟩
theorem lw_p17 : lw_okq (⟨"RecordLabels", "putTogether", "(LRecordLabels$Table;)I"⟩, 14) := ⟨⟨by decide +kernel, by decide +kernel⟩, List.mem_of_getElem? (i := 8) (by decide +kernel), List.mem_of_getElem? (i := 295) (by decide +kernel), List.mem_of_getElem? (i := 296) (by decide +kernel)⟩
theorem lw_p18 : lw_okq (⟨"RecordLabels", "wrongItem", "(LRecordLabels$Table;)I"⟩, 14) := ⟨⟨by decide +kernel, by decide +kernel⟩, List.mem_of_getElem? (i := 8) (by decide +kernel), List.mem_of_getElem? (i := 299) (by decide +kernel), List.mem_of_getElem? (i := 300) (by decide +kernel)⟩
theorem lw_p19 : lw_okq (⟨"RecordLabels", "highestOf", "(LRecordLabels$Table;I)I"⟩, 14) := ⟨⟨by decide +kernel, by decide +kernel⟩, List.mem_of_getElem? (i := 8) (by decide +kernel), List.mem_of_getElem? (i := 303) (by decide +kernel), List.mem_of_getElem? (i := 304) (by decide +kernel)⟩
theorem lw_p20 : lw_okq (⟨"RecordLabels$Table", "hasRecord", "(I)Z"⟩, 5) := ⟨⟨by decide +kernel, by decide +kernel⟩, List.mem_of_getElem? (i := 57) (by decide +kernel), List.mem_of_getElem? (i := 315) (by decide +kernel), List.mem_of_getElem? (i := 316) (by decide +kernel)⟩
theorem lw_p21 : lw_okq (⟨"RecordLabels$Table", "hasItem", "(I)Z"⟩, 5) := ⟨⟨by decide +kernel, by decide +kernel⟩, List.mem_of_getElem? (i := 57) (by decide +kernel), List.mem_of_getElem? (i := 319) (by decide +kernel), List.mem_of_getElem? (i := 320) (by decide +kernel)⟩
theorem lw_p22 : lw_okq (⟨"RecordLabels", "fromCell", "(LRecordLabels$Table;II)I"⟩, 14) := ⟨⟨by decide +kernel, by decide +kernel⟩, List.mem_of_getElem? (i := 8) (by decide +kernel), List.mem_of_getElem? (i := 328) (by decide +kernel), List.mem_of_getElem? (i := 329) (by decide +kernel)⟩
theorem lw_p23 : lw_okq (⟨"RecordLabels", "draftOf", "(LRecordLabels$Table;I)V"⟩, 14) := ⟨⟨by decide +kernel, by decide +kernel⟩, List.mem_of_getElem? (i := 8) (by decide +kernel), List.mem_of_getElem? (i := 336) (by decide +kernel), List.mem_of_getElem? (i := 337) (by decide +kernel)⟩
theorem lw_p24 : lw_okq (⟨"RecordLabels", "keepFound", "(I)V"⟩, 14) := ⟨⟨by decide +kernel, by decide +kernel⟩, List.mem_of_getElem? (i := 8) (by decide +kernel), List.mem_of_getElem? (i := 348) (by decide +kernel), List.mem_of_getElem? (i := 349) (by decide +kernel)⟩
theorem lw_p25 : lw_okq (⟨"RecordLabelsModel", "nameOf", "(II)J"⟩, 19) := ⟨⟨by decide +kernel, by decide +kernel⟩, List.mem_of_getElem? (i := 365) (by decide +kernel), List.mem_of_getElem? (i := 453) (by decide +kernel), List.mem_of_getElem? (i := 454) (by decide +kernel)⟩
theorem lw_p26 : lw_okq (⟨"RecordLabelsModel", "isCode", "(II)Z"⟩, 19) := ⟨⟨by decide +kernel, by decide +kernel⟩, List.mem_of_getElem? (i := 365) (by decide +kernel), List.mem_of_getElem? (i := 462) (by decide +kernel), List.mem_of_getElem? (i := 463) (by decide +kernel)⟩
theorem lw_p27 : lw_okq (⟨"RecordLabelsModel", "constant", "(II)I"⟩, 19) := ⟨⟨by decide +kernel, by decide +kernel⟩, List.mem_of_getElem? (i := 365) (by decide +kernel), List.mem_of_getElem? (i := 466) (by decide +kernel), List.mem_of_getElem? (i := 467) (by decide +kernel)⟩
theorem lw_p28 : lw_okq (⟨"RecordLabelsModel", "begin", "(I)I"⟩, 19) := ⟨⟨by decide +kernel, by decide +kernel⟩, List.mem_of_getElem? (i := 365) (by decide +kernel), List.mem_of_getElem? (i := 478) (by decide +kernel), List.mem_of_getElem? (i := 479) (by decide +kernel)⟩
theorem lw_p29 : lw_okq (⟨"RecordLabelsModel", "works", "(IIJ)I"⟩, 19) := ⟨⟨by decide +kernel, by decide +kernel⟩, List.mem_of_getElem? (i := 365) (by decide +kernel), List.mem_of_getElem? (i := 482) (by decide +kernel), List.mem_of_getElem? (i := 483) (by decide +kernel)⟩
theorem lw_p30 : lw_okq (⟨"RecordLabelsModel", "lost", "(I)I"⟩, 19) := ⟨⟨by decide +kernel, by decide +kernel⟩, List.mem_of_getElem? (i := 365) (by decide +kernel), List.mem_of_getElem? (i := 488) (by decide +kernel), List.mem_of_getElem? (i := 489) (by decide +kernel)⟩
theorem lw_p31 : lw_okq (⟨"RecordLabelsModel", "wrong", "(I[II)I"⟩, 19) := ⟨⟨by decide +kernel, by decide +kernel⟩, List.mem_of_getElem? (i := 365) (by decide +kernel), List.mem_of_getElem? (i := 539) (by decide +kernel), List.mem_of_getElem? (i := 540) (by decide +kernel)⟩
def lw_privs_2 : List (MethodName × Nat) := [(⟨"RecordLabels", "kindOfItem", "(LRecordLabels$Table;I)LRecordLabels$Kind;"⟩, 14), (⟨"RecordLabels", "putTogether", "(LRecordLabels$Table;)I"⟩, 14), (⟨"RecordLabels", "wrongItem", "(LRecordLabels$Table;)I"⟩, 14), (⟨"RecordLabels", "highestOf", "(LRecordLabels$Table;I)I"⟩, 14), (⟨"RecordLabels$Table", "hasRecord", "(I)Z"⟩, 5), (⟨"RecordLabels$Table", "hasItem", "(I)Z"⟩, 5), (⟨"RecordLabels", "fromCell", "(LRecordLabels$Table;II)I"⟩, 14), (⟨"RecordLabels", "draftOf", "(LRecordLabels$Table;I)V"⟩, 14), (⟨"RecordLabels", "keepFound", "(I)V"⟩, 14), (⟨"RecordLabelsModel", "nameOf", "(II)J"⟩, 19), (⟨"RecordLabelsModel", "isCode", "(II)Z"⟩, 19), (⟨"RecordLabelsModel", "constant", "(II)I"⟩, 19), (⟨"RecordLabelsModel", "begin", "(I)I"⟩, 19), (⟨"RecordLabelsModel", "works", "(IIJ)I"⟩, 19), (⟨"RecordLabelsModel", "lost", "(I)I"⟩, 19), (⟨"RecordLabelsModel", "wrong", "(I[II)I"⟩, 19)]
theorem lw_r2 : ∀ q ∈ lw_privs_2, lw_okq q := List.forall_mem_cons.mpr ⟨lw_p16, List.forall_mem_cons.mpr ⟨lw_p17, List.forall_mem_cons.mpr ⟨lw_p18, List.forall_mem_cons.mpr ⟨lw_p19, List.forall_mem_cons.mpr ⟨lw_p20, List.forall_mem_cons.mpr ⟨lw_p21, List.forall_mem_cons.mpr ⟨lw_p22, List.forall_mem_cons.mpr ⟨lw_p23, List.forall_mem_cons.mpr ⟨lw_p24, List.forall_mem_cons.mpr ⟨lw_p25, List.forall_mem_cons.mpr ⟨lw_p26, List.forall_mem_cons.mpr ⟨lw_p27, List.forall_mem_cons.mpr ⟨lw_p28, List.forall_mem_cons.mpr ⟨lw_p29, List.forall_mem_cons.mpr ⟨lw_p30, List.forall_mem_cons.mpr ⟨lw_p31, fun _ h => absurd h List.not_mem_nil⟩⟩⟩⟩⟩⟩⟩⟩⟩⟩⟩⟩⟩⟩⟩⟩
theorem lw_p32 : lw_okq (⟨"RecordLabelsModel", "take", "(I[II)V"⟩, 19) := ⟨⟨by decide +kernel, by decide +kernel⟩, List.mem_of_getElem? (i := 365) (by decide +kernel), List.mem_of_getElem? (i := 544) (by decide +kernel), List.mem_of_getElem? (i := 545) (by decide +kernel)⟩
theorem lw_p33 : lw_okq (⟨"RecordLabelsModel", "isCell", "(III)Z"⟩, 19) := ⟨⟨by decide +kernel, by decide +kernel⟩, List.mem_of_getElem? (i := 365) (by decide +kernel), List.mem_of_getElem? (i := 552) (by decide +kernel), List.mem_of_getElem? (i := 553) (by decide +kernel)⟩
theorem lw_p34 : lw_okq (⟨"RecordLabelsModel", "toldOf", "(III)I"⟩, 19) := ⟨⟨by decide +kernel, by decide +kernel⟩, List.mem_of_getElem? (i := 365) (by decide +kernel), List.mem_of_getElem? (i := 566) (by decide +kernel), List.mem_of_getElem? (i := 567) (by decide +kernel)⟩
theorem lw_p35 : lw_okq (⟨"RecordLabelsModel", "codeNow", "(II)I"⟩, 19) := ⟨⟨by decide +kernel, by decide +kernel⟩, List.mem_of_getElem? (i := 365) (by decide +kernel), List.mem_of_getElem? (i := 570) (by decide +kernel), List.mem_of_getElem? (i := 571) (by decide +kernel)⟩
def lw_privs_3 : List (MethodName × Nat) := [(⟨"RecordLabelsModel", "take", "(I[II)V"⟩, 19), (⟨"RecordLabelsModel", "isCell", "(III)Z"⟩, 19), (⟨"RecordLabelsModel", "toldOf", "(III)I"⟩, 19), (⟨"RecordLabelsModel", "codeNow", "(II)I"⟩, 19)]
theorem lw_r3 : ∀ q ∈ lw_privs_3, lw_okq q := List.forall_mem_cons.mpr ⟨lw_p32, List.forall_mem_cons.mpr ⟨lw_p33, List.forall_mem_cons.mpr ⟨lw_p34, List.forall_mem_cons.mpr ⟨lw_p35, fun _ h => absurd h List.not_mem_nil⟩⟩⟩⟩
def lw_privs : List (MethodName × Nat) := lw_privs_1 ++ (lw_privs_2 ++ (lw_privs_3))
def lw_tbl : List Cond := k2_sels lw_privs ++ tables_1
theorem lw_privs_ok : ∀ q ∈ lw_privs, lw_okq q := by
  show ∀ q ∈ lw_privs_1 ++ (lw_privs_2 ++ (lw_privs_3)), lw_okq q
  exact List.forall_mem_append.mpr ⟨lw_r1, List.forall_mem_append.mpr ⟨lw_r2, lw_r3⟩⟩
/-! ===== BEGIN words of one list among another's, by their places ===== -/
theorem goodIn_r {big : List Cond} (ws : List Cond) (ps : List Nat) (hp : ws = ps.filterMap (fun i => big[i]?)) (h : ws.all goodWord = true) : GoodIn big ws := by
  intro w hw
  have h1 := List.all_eq_true.mp h w hw
  rw [hp] at hw
  obtain ⟨i, -, hi⟩ := List.mem_filterMap.mp hw
  have hm : w ∈ big := by first | exact List.mem_of_getElem? hi | exact List.getElem?_mem hi
  exact ⟨hm, good_of_word h1⟩
theorem goodIn_app {big a b : List Cond} (ha : GoodIn big a) (hb : GoodIn big b) : GoodIn big (a ++ b) := fun w h => (List.mem_append.mp h).elim (ha w) (hb w)
theorem goodIn_ca {big a b : List Cond} {c : Cond} (ha : GoodIn big (c :: a)) (hb : GoodIn big b) : GoodIn big (c :: (a ++ b)) := fun w h => (List.mem_cons.mp h).elim (fun e => ha w (List.mem_cons.mpr (Or.inl e))) (fun h => (List.mem_append.mp h).elim (fun h => ha w (List.mem_cons.mpr (Or.inr h))) (hb w))
theorem goodIn_sub {big ws : List Cond} (hm : ∀ w ∈ ws, w ∈ big) (h : ws.all goodWord = true) : GoodIn big ws := fun w hw => ⟨hm w hw, good_of_word (List.all_eq_true.mp h w hw)⟩
/-! ===== END ===== -/

/-! ===== BEGIN new T[n][m]: the outer array a place, the inner ones among the pooled ===== -/
/-- f, but v at every address of l -/
def vr_up {α : Type} (f : Nat → α) (l : List Nat) (v : α) : Nat → α := fun a => if a ∈ l then v else f a
theorem vr_up_in {α : Type} {f : Nat → α} {l : List Nat} {v : α} {a : Nat} (h : a ∈ l) : vr_up f l v a = v := if_pos h
theorem vr_up_ne {α : Type} {f : Nat → α} {l : List Nat} {v : α} {a : Nat} (h : a ∉ l) : vr_up f l v a = f a := if_neg h
theorem vr_rows {L l : List Nat} {f : Nat → va_E} {e : va_E} (h : ∀ a, a ∈ l → a ∉ L) : va_pl L f ++ l.map (fun a => (a, e)) = va_pl (L ++ l) (vr_up f l e) := by
  unfold va_pl
  rw [List.map_append]
  congr 1
  · apply List.map_congr_left
    intro a ha
    rw [vr_up_ne (fun q => h a q ha)]
  · apply List.map_congr_left
    intro a ha
    rw [vr_up_in ha]
theorem vr_lay {X rows : va_W} {x : Nat × va_E} {pl : va_W} {D : va_G} {cl : List vw_C} {H : Heap} (hP : va_P D cl (((X ++ pl) ++ [x]) ++ rows) H) : va_P D cl ((X ++ [x]) ++ (pl ++ rows)) H := by
  rw [List.append_assoc (X ++ pl)] at hP
  have h := va_P.swap hP
  rw [← List.append_assoc X] at h
  have h2 := va_P.swap h
  rw [List.append_assoc (X ++ [x])] at h2
  exact h2
theorem vr_layD {X rows : va_W} {x : Nat × va_E} {pl : va_W} {A : Nat → Prop} (hD : va_D A (((X ++ pl) ++ [x]) ++ rows)) : va_D A ((X ++ [x]) ++ (pl ++ rows)) := by
  rw [List.append_assoc (X ++ pl)] at hD
  have h := va_D.swap hD
  rw [← List.append_assoc X] at h
  have h2 := va_D.swap h
  rw [List.append_assoc (X ++ [x])] at h2
  exact h2
theorem vr_outer (c : ClassId) (N h0 : Nat) : ∀ i : Nat, Jvm.Free.Multi.outerC c N h0 i = arrV c N (fun j => va_rf (if j < i then some (h0 + 1 + j) else none))
  | 0 => by
    show ({ cls := c, slots := Array.replicate N .null, vm := .none } : Cell) = _
    rw [arrV_new]
    refine congrArg (arrV c N) (funext fun j => ?_)
    simp [va_rf]
  | i + 1 => by
    show (Jvm.Free.Multi.outerC c N h0 i).setSlot i (.ref (h0 + 1 + i)) = _
    rw [vr_outer c N h0 i, arrV_store]
    refine congrArg (arrV c N) (funext fun j => ?_)
    by_cases e : j = i
    · subst e
      simp [updV, va_rf]
    · by_cases h : j < i
      · simp [updV, e, h, Nat.lt_succ_of_lt h]
      · simp [updV, e, h, show ¬ j < i + 1 by omega]
def va_AOA (ty : FieldType) (U : State) : Prop := (Cond.arrayOver (.array ty)).before #[] U = true
theorem va_AOA.use {ty : FieldType} {A : Array Value} {U : State} (h : va_AOA ty U) : (Cond.arrayOver (.array ty)).before A U = true := h
section VGM
variable {p : Program} {l : Launch} {e : Env} {R : Room} {s : State} {m : MethodId} {args : Array Value} {below : List Frame} {meth : Method} {c : Code} {H : Heap} {locs : List Loc} {cells slots : Nat} {Q : State → Prop}
variable {cc : ByteArray} {pc : Nat} {ls : Array Slot} {rest : List Value} {D : va_G} {cl : List vw_C} {A : Nat → Prop} {a : Nat} {tys : List (ClassId × FieldType)} {ws : va_W} {H0 : Heap}
theorem va_mna {X : va_W} {L : List Nat} {f : Nat → va_E} {cc : ByteArray} (hexec : p.tables.exec = Jvm.exec) (hb : c.code = cc) {own : String} {index : Nat} {ty : FieldType} {cy : ClassId} (hown : s.vm.findClass own = some m.cls) (hclink : (Cond.classLink own index ("[" ++ (FieldType.array ty).toString)).before args s = true) (hover : va_AOA ty s) (harr : (Cond.arrayClass ty).before args s = true) (hcy : s.vm.findClass (FieldType.array ty).toString = some cy)
    (hK : va_K D cl tys s) (hP : va_P D cl (X ++ va_pl L f) H) (hD : va_D A (X ++ va_pl L f)) (hS : va_S A H0 H locs) (hA : ∀ q, H0.size ≤ q → A q) {n k : Int32} {N' K' : Nat} {z : vp_A} (hn : ¬ n < 0) (hk : ¬ k < 0) (hN : n.toNatClampNeg = N') (hM : k.toNatClampNeg = K')
    (hb1 : N' * 4 ≤ 536870912) (hb2 : K' * componentBytes ty ≤ 536870912) (hb3 : K' ≤ 536870912) (hdf : fits ty (defaultValue ty) = true) (hdd : (defaultValue ty).isDefault = true) (hcells : cells + (1 + N') ≤ R.cells) (hslots : slots + (N' + N' * K') ≤ R.slots) (hz : ∀ c : ClassId, Jvm.Free.Multi.innerC c K' (defaultValue ty) = vp_cell c z) (hdg : decode cc pc = .ok (.multianewarray index 2, 4))
    (kk : ∀ (q : Nat) (r : Nat → Nat) (cA : ClassId) (H1 : Heap), (∀ i j : Nat, i < N' → j < N' → r i = r j → i = j) → (∀ i : Nat, i < N' → r i ∉ L) → va_K D cl (tys ++ [(cA, .array ty)]) s →
      va_P D cl ((X ++ [(q, .inl (cA, N', .inr (.inr (.inr (.inr (fun i => if i < N' then some (r i) else none))))))]) ++ va_pl (L ++ (List.range N').map r) (vr_up f ((List.range N').map r) (.inl (cy, z)))) H1 → va_D A ((X ++ [(q, .inl (cA, N', .inr (.inr (.inr (.inr (fun i => if i < N' then some (r i) else none))))))]) ++ va_pl (L ++ (List.range N').map r) (vr_up f ((List.range N').map r) (.inl (cy, z)))) → va_S A H0 H1 locs →
      W p l e R s m args below meth c H1 locs (cells + 1 + N') (slots + N' + N' * K') Q (F0 m (pc + 4) ls (.ref q :: rest))) : W p l e R s m args below meth c H locs cells slots Q (F0 m pc ls (.int k :: .int n :: rest)) := by
  subst hN
  subst hM
  intro T hT Xs
  obtain ⟨vm₁, cA, comp, -, fA, fC, hO, -, X', step⟩ := Xs.multianewarray2F hexec hown hclink (va_AOA.use hover) harr (g := F0 m pc ls (.int k :: .int n :: rest)) rfl (by rw [hb]; exact hdg) rfl hn hk hb1 hb2 hb3 hdf hdd hcells hslots
  have ec : some cy = some comp := hcy.symm.trans fC
  cases ec
  generalize hF : Jvm.Free.Multi.fill (T.setVm vm₁) cA cy n.toNatClampNeg k.toNatClampNeg (defaultValue ty) n.toNatClampNeg = F at X' step
  have hTh : (T.setVm vm₁).heap = H := hT
  obtain ⟨f1, f2, -, -⟩ := Jvm.Free.Multi.fill_facts (T.setVm vm₁) cA cy n.toNatClampNeg k.toNatClampNeg (defaultValue ty) n.toNatClampNeg
  rw [hF, hTh] at f1 f2
  have hold : ∀ x : Nat, x < H.size → F.heap[x]? = H[x]? := fun x hx => by
    have := Jvm.Free.Multi.fill_old (T.setVm vm₁) cA cy n.toNatClampNeg k.toNatClampNeg (defaultValue ty) (a := x) (by rw [hTh]; exact hx) n.toNatClampNeg
    rw [hF, hTh] at this
    exact this
  have hrow : ∀ j : Nat, j < n.toNatClampNeg → F.heap[H.size + 1 + j]? = some (vp_cell cy z) := fun j hj => by
    have := Jvm.Free.Multi.fill_inner (T.setVm vm₁) cA cy n.toNatClampNeg k.toNatClampNeg (defaultValue ty) n.toNatClampNeg j hj
    rw [hF, hTh, hz] at this
    exact this
  have hout : Jvm.Free.Multi.outerC cA n.toNatClampNeg H.size n.toNatClampNeg = vp_cell cA (n.toNatClampNeg, .inr (.inr (.inr (.inr (fun i => if i < n.toNatClampNeg then some (H.size + 1 + i) else none))))) := by
    rw [vp_cell_q]
    exact vr_outer cA n.toNatClampNeg H.size n.toNatClampNeg
  rw [hout] at f2
  have hlt : ∀ a, a ∈ L → a < H.size := fun a ha => by
    obtain ⟨k9, hk9⟩ := va_pl_get (X := X) (f := f) ha
    exact (hP k9 _ hk9).lt
  have hnl : ∀ i : Nat, i < n.toNatClampNeg → H.size + 1 + i ∉ L := fun i _ h => by
    have := hlt _ h
    omega
  have hnm : ∀ a, a ∈ (List.range n.toNatClampNeg).map (fun i => H.size + 1 + i) → a ∉ L := fun a ha h => by
    obtain ⟨i, -, rfl⟩ := List.mem_map.mp ha
    have := hlt _ h
    omega
  have hP0 : va_P D cl (X ++ va_pl L f) F.heap := hP.kept (fun k9 x hx => hold x.1 ((hP k9 x hx).lt))
  have hP1 : va_P D cl ((X ++ va_pl L f) ++ [(H.size, .inl (cA, n.toNatClampNeg, .inr (.inr (.inr (.inr (fun i => if i < n.toNatClampNeg then some (H.size + 1 + i) else none))))))]) F.heap := hP0.app (fun k9 x hx => by
    have h0 : k9 < 1 := (List.getElem?_eq_some_iff.mp hx).1
    rw [show k9 = 0 by omega] at hx
    cases hx
    exact f2)
  have hP2 : va_P D cl (((X ++ va_pl L f) ++ [(H.size, .inl (cA, n.toNatClampNeg, .inr (.inr (.inr (.inr (fun i => if i < n.toNatClampNeg then some (H.size + 1 + i) else none))))))]) ++ ((List.range n.toNatClampNeg).map (fun i => H.size + 1 + i)).map (fun a => (a, .inl (cy, z)))) F.heap := hP1.app (fun k9 x hx => by
    obtain ⟨a, ha, rfl⟩ := List.mem_map.mp (List.mem_of_getElem? hx)
    obtain ⟨i, hi, rfl⟩ := List.mem_map.mp ha
    exact hrow i (List.mem_range.mp hi))
  have hD2 : va_D A (((X ++ va_pl L f) ++ [(H.size, .inl (cA, n.toNatClampNeg, .inr (.inr (.inr (.inr (fun i => if i < n.toNatClampNeg then some (H.size + 1 + i) else none))))))]) ++ ((List.range n.toNatClampNeg).map (fun i => H.size + 1 + i)).map (fun a => (a, .inl (cy, z)))) := by
    have hD1 := hD.push (e := .inl (cA, n.toNatClampNeg, .inr (.inr (.inr (.inr (fun i => if i < n.toNatClampNeg then some (H.size + 1 + i) else none)))))) hP rfl (hA _ hS.1)
    generalize hW1 : (X ++ va_pl L f) ++ [(H.size, .inl (cA, n.toNatClampNeg, .inr (.inr (.inr (.inr (fun i => if i < n.toNatClampNeg then some (H.size + 1 + i) else none))))))] = W1 at hD1 hP1 ⊢
    have hle : ∀ (k9 : Nat) (x : Nat × va_E), W1[k9]? = some x → x.1 ≤ H.size := fun k9 x hx => by
      rw [← hW1] at hx
      by_cases hl : k9 < (X ++ va_pl L f).length
      · rw [List.getElem?_append_left hl] at hx
        exact Nat.le_of_lt ((hP k9 x hx).lt)
      · rw [List.getElem?_append_right (by omega)] at hx
        have h0 : k9 - (X ++ va_pl L f).length < 1 := (List.getElem?_eq_some_iff.mp hx).1
        rw [show k9 - (X ++ va_pl L f).length = 0 by omega] at hx
        cases hx
        exact Nat.le_refl _
    have hr : ∀ (k9 : Nat) (x : Nat × va_E), (((List.range n.toNatClampNeg).map (fun i => H.size + 1 + i)).map (fun a => ((a, .inl (cy, z)) : Nat × va_E)))[k9]? = some x → x.1 = H.size + 1 + k9 := fun k9 x hx => by
      rw [List.getElem?_map, List.getElem?_map] at hx
      by_cases h9 : k9 < n.toNatClampNeg
      · rw [List.getElem?_range h9] at hx
        cases hx
        rfl
      · have hn0 : (List.range n.toNatClampNeg)[k9]? = none := List.getElem?_eq_none (by rw [List.length_range]; omega)
        rw [hn0] at hx
        cases hx
    refine ⟨fun i j x y hi hj hxy => ?_, fun k9 x hx => ?_⟩
    · by_cases h1 : i < W1.length <;> by_cases h2 : j < W1.length
      · rw [List.getElem?_append_left h1] at hi
        rw [List.getElem?_append_left h2] at hj
        exact hD1.1 i j x y hi hj hxy
      · rw [List.getElem?_append_left h1] at hi
        rw [List.getElem?_append_right (by omega)] at hj
        have := hle _ _ hi
        have := hr _ _ hj
        omega
      · rw [List.getElem?_append_right (by omega)] at hi
        rw [List.getElem?_append_left h2] at hj
        have := hle _ _ hj
        have := hr _ _ hi
        omega
      · rw [List.getElem?_append_right (by omega)] at hi hj
        have := hr _ _ hi
        have := hr _ _ hj
        omega
    · by_cases h1 : k9 < W1.length
      · rw [List.getElem?_append_left h1] at hx
        exact hD1.2 k9 x hx
      · rw [List.getElem?_append_right (by omega)] at hx
        have := hr _ _ hx
        exact hA _ (by have := hS.1; omega)
  have hAr : ArrOfT s cA (.array ty) := fun N9 z9 => by
    obtain ⟨-, k9, hk9, cm9, hkk9⟩ := (hO 0 0 0).1
    exact ⟨(fun q hq => by cases hq), k9, hk9, cm9, hkk9⟩
  have hK2 : va_K D cl (tys ++ [(cA, .array ty)]) s := ⟨hK.1, fun k9 x hx => by
    by_cases hl : k9 < tys.length
    · rw [List.getElem?_append_left hl] at hx
      exact hK.2 k9 x hx
    · rw [List.getElem?_append_right (by omega)] at hx
      have h0 : k9 - tys.length < 1 := (List.getElem?_eq_some_iff.mp hx).1
      rw [show k9 - tys.length = 0 by omega] at hx
      cases hx
      exact ⟨hAr, fA⟩⟩
  obtain ⟨t, a1, b1⟩ := kk H.size (fun i => H.size + 1 + i) cA F.heap (fun i j _ _ h => by have h9 : H.size + 1 + i = H.size + 1 + j := h; omega) hnl hK2 (by rw [← vr_rows hnm]; exact vr_lay hP2) (by rw [← vr_rows hnm]; exact vr_layD hD2) ⟨by rw [f1]; have := hS.1; omega, fun x h1 h2 => (hold x (Nat.lt_of_lt_of_le h1 hS.1)).trans (hS.2.1 x h1 h2), hS.2.2⟩ F rfl X'
  refine ⟨t, step t ?_, b1⟩
  have e : T.heap.size = H.size := by rw [hT]
  rw [e]
  exact a1
end VGM
/-! ===== END ===== -/

/-! ===== BEGIN printed: names, fields, word lists, decode rows ===== -/
def RX0 : String := "RecordLabels$Kind"
def TX0 : u_T := fun k => match k with
  | 0 => ("RecordLabels$Kind", "number", "I", true)
  | 1 => ("RecordLabels$Kind", "names", "[J", true)
  | 2 => ("RecordLabels$Kind", "size", "I", true)
  | 3 => ("RecordLabels$Kind", "constants", "[I", true)
  | 4 => ("RecordLabels$Kind", "codes", "[I", true)
  | 5 => ("RecordLabels$Kind", "start", "I", false)
  | _ => ("RecordLabels$Kind", "toldToFail", "Z", false)
def tyX0 : Nat → FieldType := fun k => match k with
  | 0 => .int
  | 1 => .array .long
  | 2 => .int
  | 3 => .array .int
  | 4 => .array .int
  | 5 => .int
  | _ => .boolean
abbrev wsX00 : List Cond := u_ws RX0 TX0 7
theorem nmX0 : ∀ a, a < 7 → ∀ b, b < 7 → a ≠ b → (TX0 a).2.1 ≠ (TX0 b).2.1 := by decide +kernel
theorem tyX0_ok : ∀ k, k < 7 → parseFieldDescriptor (TX0 k).2.2.1 = some (tyX0 k) := by decide +kernel
abbrev cX0_init : ByteArray := prog_2_method_1_code
def yX0_init : MethodName := ⟨RX0, "<init>", "(I[J)V"⟩
abbrev cX0_has : ByteArray := prog_2_method_2_code
def yX0_has : MethodName := ⟨RX0, "has", "(I)Z"⟩
abbrev cX0_constantOf : ByteArray := prog_2_method_3_code
def yX0_constantOf : MethodName := ⟨RX0, "constantOf", "(I)I"⟩
abbrev cX0_codeOf : ByteArray := prog_2_method_4_code
def yX0_codeOf : MethodName := ⟨RX0, "codeOf", "(I)I"⟩
abbrev cX0_constantNamed : ByteArray := prog_2_method_5_code
def yX0_constantNamed : MethodName := ⟨RX0, "constantNamed", "(J)I"⟩
abbrev cX0_nameOf : ByteArray := prog_2_method_6_code
def yX0_nameOf : MethodName := ⟨RX0, "nameOf", "(I)J"⟩
abbrev cX0_exchange : ByteArray := prog_2_method_7_code
def yX0_exchange : MethodName := ⟨RX0, "exchange", "(II)V"⟩
abbrev cX0_giveCode : ByteArray := prog_2_method_8_code
def yX0_giveCode : MethodName := ⟨RX0, "giveCode", "(II)V"⟩
abbrev cX0_startForRule : ByteArray := prog_2_method_9_code
def yX0_startForRule : MethodName := ⟨RX0, "startForRule", "()I"⟩
def RX1 : String := "RecordLabels$LabelSet"
def TX1 : u_T := fun k => match k with
  | 0 => ("RecordLabels$LabelSet", "kind", "LRecordLabels$Kind;", false)
  | _ => ("RecordLabels$LabelSet", "members", "I", false)
def tyX1 : Nat → FieldType := fun k => match k with
  | 0 => .object "RecordLabels$Kind"
  | _ => .int
abbrev wsX10 : List Cond := u_ws RX1 TX1 2
theorem nmX1 : ∀ a, a < 2 → ∀ b, b < 2 → a ≠ b → (TX1 a).2.1 ≠ (TX1 b).2.1 := by decide +kernel
theorem tyX1_ok : ∀ k, k < 2 → parseFieldDescriptor (TX1 k).2.2.1 = some (tyX1 k) := by decide +kernel
abbrev cX1_init : ByteArray := prog_3_method_1_code
def yX1_init : MethodName := ⟨RX1, "<init>", "(LRecordLabels$Kind;)V"⟩
abbrev cX1_size : ByteArray := prog_3_method_2_code
def yX1_size : MethodName := ⟨RX1, "size", "()I"⟩
abbrev cX1_holds : ByteArray := prog_3_method_3_code
def yX1_holds : MethodName := ⟨RX1, "holds", "(I)Z"⟩
abbrev cX1_become : ByteArray := prog_3_method_4_code
def yX1_become : MethodName := ⟨RX1, "become", "(LRecordLabels$Kind;I)V"⟩
def RX2 : String := "RecordLabels$Table"
def TX2 : u_T := fun k => match k with
  | 0 => ("RecordLabels$Table", "kind", "LRecordLabels$Kind;", true)
  | 1 => ("RecordLabels$Table", "items", "I", true)
  | 2 => ("RecordLabels$Table", "measure", "I", true)
  | 3 => ("RecordLabels$Table", "columns", "[[I", true)
  | _ => ("RecordLabels$Table", "size", "I", false)
def tyX2 : Nat → FieldType := fun k => match k with
  | 0 => .object "RecordLabels$Kind"
  | 1 => .int
  | 2 => .int
  | 3 => .array (.array .int)
  | _ => .int
abbrev wsX20 : List Cond := u_ws RX2 TX2 5
theorem nmX2 : ∀ a, a < 5 → ∀ b, b < 5 → a ≠ b → (TX2 a).2.1 ≠ (TX2 b).2.1 := by decide +kernel
theorem tyX2_ok : ∀ k, k < 5 → parseFieldDescriptor (TX2 k).2.2.1 = some (tyX2 k) := by decide +kernel
abbrev cX2_init : ByteArray := prog_4_method_1_code
def yX2_init : MethodName := ⟨RX2, "<init>", "(LRecordLabels$Kind;II)V"⟩
abbrev cX2_hasRecord : ByteArray := prog_4_method_2_code
def yX2_hasRecord : MethodName := ⟨RX2, "hasRecord", "(I)Z"⟩
abbrev cX2_hasItem : ByteArray := prog_4_method_3_code
def yX2_hasItem : MethodName := ⟨RX2, "hasItem", "(I)Z"⟩
def RX3 : String := "RecordLabels"
def TX3 : u_T := fun k => match k with
  | 0 => ("RecordLabels", "nodeKind", "LRecordLabels$Kind;", true)
  | 1 => ("RecordLabels", "arcKind", "LRecordLabels$Kind;", true)
  | 2 => ("RecordLabels", "signKind", "LRecordLabels$Kind;", true)
  | 3 => ("RecordLabels", "sets", "[LRecordLabels$LabelSet;", true)
  | 4 => ("RecordLabels", "nodeTable", "LRecordLabels$Table;", true)
  | 5 => ("RecordLabels", "arcTable", "LRecordLabels$Table;", true)
  | 6 => ("RecordLabels", "lastResult", "J", false)
  | 7 => ("RecordLabels", "ruleFailures", "I", false)
  | 8 => ("RecordLabels", "wrongRecords", "I", false)
  | 9 => ("RecordLabels", "draft", "[I", true)
  | 10 => ("RecordLabels", "parts", "[I", true)
  | 11 => ("RecordLabels", "partsTable", "LRecordLabels$Table;", false)
  | 12 => ("RecordLabels", "foundRecords", "[I", true)
  | _ => ("RecordLabels", "foundSize", "I", false)
def tyX3 : Nat → FieldType := fun k => match k with
  | 0 => .object "RecordLabels$Kind"
  | 1 => .object "RecordLabels$Kind"
  | 2 => .object "RecordLabels$Kind"
  | 3 => .array (.object "RecordLabels$LabelSet")
  | 4 => .object "RecordLabels$Table"
  | 5 => .object "RecordLabels$Table"
  | 6 => .long
  | 7 => .int
  | 8 => .int
  | 9 => .array .int
  | 10 => .array .int
  | 11 => .object "RecordLabels$Table"
  | 12 => .array .int
  | _ => .int
abbrev wsX30 : List Cond := u_ws RX3 TX3 14
theorem nmX3 : ∀ a, a < 14 → ∀ b, b < 14 → a ≠ b → (TX3 a).2.1 ≠ (TX3 b).2.1 := by decide +kernel
theorem tyX3_ok : ∀ k, k < 14 → parseFieldDescriptor (TX3 k).2.2.1 = some (tyX3 k) := by decide +kernel
abbrev cX3_init : ByteArray := prog_1_method_1_code
def yX3_init : MethodName := ⟨RX3, "<init>", "()V"⟩
abbrev cX3_code : ByteArray := prog_1_method_2_code
def yX3_code : MethodName := ⟨RX3, "code", "(IJ)I"⟩
abbrev cX3_name : ByteArray := prog_1_method_3_code
def yX3_name : MethodName := ⟨RX3, "name", "(II)J"⟩
abbrev cX3_swap : ByteArray := prog_1_method_4_code
def yX3_swap : MethodName := ⟨RX3, "swap", "(III)I"⟩
abbrev cX3_rule : ByteArray := prog_1_method_5_code
def yX3_rule : MethodName := ⟨RX3, "rule", "(IIJ)I"⟩
abbrev cX3_result : ByteArray := prog_1_method_6_code
def yX3_result : MethodName := ⟨RX3, "result", "()J"⟩
abbrev cX3_fail : ByteArray := prog_1_method_7_code
def yX3_fail : MethodName := ⟨RX3, "fail", "(IZ)I"⟩
abbrev cX3_started : ByteArray := prog_1_method_8_code
def yX3_started : MethodName := ⟨RX3, "started", "(I)I"⟩
abbrev cX3_clear : ByteArray := prog_1_method_9_code
def yX3_clear : MethodName := ⟨RX3, "clear", "(II)I"⟩
abbrev cX3_put : ByteArray := prog_1_method_10_code
def yX3_put : MethodName := ⟨RX3, "put", "(IIZ)I"⟩
abbrev cX3_join : ByteArray := prog_1_method_11_code
def yX3_join : MethodName := ⟨RX3, "join", "(IIII)I"⟩
abbrev cX3_member : ByteArray := prog_1_method_12_code
def yX3_member : MethodName := ⟨RX3, "member", "(II)I"⟩
abbrev cX3_about : ByteArray := prog_1_method_13_code
def yX3_about : MethodName := ⟨RX3, "about", "(II)I"⟩
abbrev cX3_record : ByteArray := prog_1_method_14_code
def yX3_record : MethodName := ⟨RX3, "record", "(IIIII)I"⟩
abbrev cX3_lay : ByteArray := prog_1_method_15_code
def yX3_lay : MethodName := ⟨RX3, "lay", "(IIII)I"⟩
abbrev cX3_cell : ByteArray := prog_1_method_16_code
def yX3_cell : MethodName := ⟨RX3, "cell", "(III)I"⟩
abbrev cX3_back : ByteArray := prog_1_method_17_code
def yX3_back : MethodName := ⟨RX3, "back", "(II)I"⟩
abbrev cX3_part : ByteArray := prog_1_method_18_code
def yX3_part : MethodName := ⟨RX3, "part", "(I)I"⟩
abbrev cX3_filter : ByteArray := prog_1_method_19_code
def yX3_filter : MethodName := ⟨RX3, "filter", "(IIIII)I"⟩
abbrev cX3_found : ByteArray := prog_1_method_20_code
def yX3_found : MethodName := ⟨RX3, "found", "(I)I"⟩
abbrev cX3_sum : ByteArray := prog_1_method_21_code
def yX3_sum : MethodName := ⟨RX3, "sum", "(I)J"⟩
abbrev cX3_count : ByteArray := prog_1_method_22_code
def yX3_count : MethodName := ⟨RX3, "count", "(I)I"⟩
abbrev cX3_kindNumbered : ByteArray := prog_1_method_23_code
def yX3_kindNumbered : MethodName := ⟨RX3, "kindNumbered", "(I)LRecordLabels$Kind;"⟩
abbrev cX3_setNumbered : ByteArray := prog_1_method_24_code
def yX3_setNumbered : MethodName := ⟨RX3, "setNumbered", "(I)LRecordLabels$LabelSet;"⟩
abbrev cX3_tableNumbered : ByteArray := prog_1_method_25_code
def yX3_tableNumbered : MethodName := ⟨RX3, "tableNumbered", "(I)LRecordLabels$Table;"⟩
abbrev cX3_oneIf : ByteArray := prog_1_method_26_code
def yX3_oneIf : MethodName := ⟨RX3, "oneIf", "(Z)I"⟩
abbrev cX3_isFromTo : ByteArray := prog_1_method_27_code
def yX3_isFromTo : MethodName := ⟨RX3, "isFromTo", "(III)Z"⟩
abbrev cX3_askRule : ByteArray := prog_1_method_28_code
def yX3_askRule : MethodName := ⟨RX3, "askRule", "(LRecordLabels$Kind;IJ)I"⟩
abbrev cX3_arcRuleAnswer : ByteArray := prog_1_method_29_code
def yX3_arcRuleAnswer : MethodName := ⟨RX3, "arcRuleAnswer", "(IJ)I"⟩
abbrev cX3_valueOf : ByteArray := prog_1_method_30_code
def yX3_valueOf : MethodName := ⟨RX3, "valueOf", "(LRecordLabels$Kind;IJ)J"⟩
abbrev cX3_nodeValue : ByteArray := prog_1_method_31_code
def yX3_nodeValue : MethodName := ⟨RX3, "nodeValue", "(IJ)J"⟩
abbrev cX3_arcValue : ByteArray := prog_1_method_32_code
def yX3_arcValue : MethodName := ⟨RX3, "arcValue", "(IJ)J"⟩
abbrev cX3_joined : ByteArray := prog_1_method_33_code
def yX3_joined : MethodName := ⟨RX3, "joined", "(ILRecordLabels$LabelSet;LRecordLabels$LabelSet;)I"⟩
abbrev cX3_kindOfItem : ByteArray := prog_1_method_34_code
def yX3_kindOfItem : MethodName := ⟨RX3, "kindOfItem", "(LRecordLabels$Table;I)LRecordLabels$Kind;"⟩
abbrev cX3_toCell : ByteArray := prog_1_method_35_code
def yX3_toCell : MethodName := ⟨RX3, "toCell", "(LRecordLabels$Table;II)I"⟩
abbrev cX3_fromCell : ByteArray := prog_1_method_36_code
def yX3_fromCell : MethodName := ⟨RX3, "fromCell", "(LRecordLabels$Table;II)I"⟩
abbrev cX3_draftOf : ByteArray := prog_1_method_37_code
def yX3_draftOf : MethodName := ⟨RX3, "draftOf", "(LRecordLabels$Table;I)V"⟩
abbrev cX3_putTogether : ByteArray := prog_1_method_38_code
def yX3_putTogether : MethodName := ⟨RX3, "putTogether", "(LRecordLabels$Table;)I"⟩
abbrev cX3_wrongItem : ByteArray := prog_1_method_39_code
def yX3_wrongItem : MethodName := ⟨RX3, "wrongItem", "(LRecordLabels$Table;)I"⟩
abbrev cX3_highestOf : ByteArray := prog_1_method_40_code
def yX3_highestOf : MethodName := ⟨RX3, "highestOf", "(LRecordLabels$Table;I)I"⟩
abbrev cX3_keepFound : ByteArray := prog_1_method_41_code
def yX3_keepFound : MethodName := ⟨RX3, "keepFound", "(I)V"⟩
def RX4 : String := "RecordLabelsModel"
def TX4 : u_T := fun k => match k with
  | 0 => ("RecordLabelsModel", "many", "[I", true)
  | 1 => ("RecordLabelsModel", "names", "[J", true)
  | 2 => ("RecordLabelsModel", "codeOf", "[I", true)
  | 3 => ("RecordLabelsModel", "constantOf", "[I", true)
  | 4 => ("RecordLabelsModel", "state", "[I", true)
  | 5 => ("RecordLabelsModel", "fails", "[Z", true)
  | 6 => ("RecordLabelsModel", "result", "J", false)
  | 7 => ("RecordLabelsModel", "failures", "I", false)
  | 8 => ("RecordLabelsModel", "wrongs", "I", false)
  | 9 => ("RecordLabelsModel", "setKind", "[I", true)
  | 10 => ("RecordLabelsModel", "held", "[I", true)
  | 11 => ("RecordLabelsModel", "records", "[I", true)
  | 12 => ("RecordLabelsModel", "cells", "[I", true)
  | 13 => ("RecordLabelsModel", "latest", "I", false)
  | 14 => ("RecordLabelsModel", "parts", "[I", true)
  | 15 => ("RecordLabelsModel", "finds", "I", false)
  | 16 => ("RecordLabelsModel", "foundAt", "[I", true)
  | 17 => ("RecordLabelsModel", "came", "J", false)
  | _ => ("RecordLabelsModel", "draft", "[I", true)
def tyX4 : Nat → FieldType := fun k => match k with
  | 0 => .array .int
  | 1 => .array .long
  | 2 => .array .int
  | 3 => .array .int
  | 4 => .array .int
  | 5 => .array .boolean
  | 6 => .long
  | 7 => .int
  | 8 => .int
  | 9 => .array .int
  | 10 => .array .int
  | 11 => .array .int
  | 12 => .array .int
  | 13 => .int
  | 14 => .array .int
  | 15 => .int
  | 16 => .array .int
  | 17 => .long
  | _ => .array .int
abbrev wsX40 : List Cond := u_ws RX4 TX4 19
theorem nmX4 : ∀ a, a < 19 → ∀ b, b < 19 → a ≠ b → (TX4 a).2.1 ≠ (TX4 b).2.1 := by decide +kernel
theorem tyX4_ok : ∀ k, k < 19 → parseFieldDescriptor (TX4 k).2.2.1 = some (tyX4 k) := by decide +kernel
abbrev cX4_init : ByteArray := prog_6_method_1_code
def yX4_init : MethodName := ⟨RX4, "<init>", "()V"⟩
abbrev cX4_isIn : ByteArray := prog_6_method_2_code
def yX4_isIn : MethodName := ⟨RX4, "isIn", "(III)Z"⟩
abbrev cX4_isKind : ByteArray := prog_6_method_3_code
def yX4_isKind : MethodName := ⟨RX4, "isKind", "(I)Z"⟩
abbrev cX4_isSet : ByteArray := prog_6_method_4_code
def yX4_isSet : MethodName := ⟨RX4, "isSet", "(I)Z"⟩
abbrev cX4_isTable : ByteArray := prog_6_method_5_code
def yX4_isTable : MethodName := ⟨RX4, "isTable", "(I)Z"⟩
abbrev cX4_isCode : ByteArray := prog_6_method_6_code
def yX4_isCode : MethodName := ⟨RX4, "isCode", "(II)Z"⟩
abbrev cX4_constant : ByteArray := prog_6_method_7_code
def yX4_constant : MethodName := ⟨RX4, "constant", "(II)I"⟩
abbrev cX4_codeNow : ByteArray := prog_6_method_8_code
def yX4_codeNow : MethodName := ⟨RX4, "codeNow", "(II)I"⟩
abbrev cX4_nameOf : ByteArray := prog_6_method_9_code
def yX4_nameOf : MethodName := ⟨RX4, "nameOf", "(II)J"⟩
abbrev cX4_code : ByteArray := prog_6_method_10_code
def yX4_code : MethodName := ⟨RX4, "code", "(IJ)I"⟩
abbrev cX4_name : ByteArray := prog_6_method_11_code
def yX4_name : MethodName := ⟨RX4, "name", "(II)J"⟩
abbrev cX4_swap : ByteArray := prog_6_method_12_code
def yX4_swap : MethodName := ⟨RX4, "swap", "(III)I"⟩
abbrev cX4_begin : ByteArray := prog_6_method_13_code
def yX4_begin : MethodName := ⟨RX4, "begin", "(I)I"⟩
abbrev cX4_works : ByteArray := prog_6_method_14_code
def yX4_works : MethodName := ⟨RX4, "works", "(IIJ)I"⟩
abbrev cX4_lost : ByteArray := prog_6_method_15_code
def yX4_lost : MethodName := ⟨RX4, "lost", "(I)I"⟩
abbrev cX4_rule : ByteArray := prog_6_method_16_code
def yX4_rule : MethodName := ⟨RX4, "rule", "(IIJ)I"⟩
abbrev cX4_result : ByteArray := prog_6_method_17_code
def yX4_result : MethodName := ⟨RX4, "result", "()J"⟩
abbrev cX4_fail : ByteArray := prog_6_method_18_code
def yX4_fail : MethodName := ⟨RX4, "fail", "(IZ)I"⟩
abbrev cX4_started : ByteArray := prog_6_method_19_code
def yX4_started : MethodName := ⟨RX4, "started", "(I)I"⟩
abbrev cX4_size : ByteArray := prog_6_method_20_code
def yX4_size : MethodName := ⟨RX4, "size", "(I)I"⟩
abbrev cX4_clear : ByteArray := prog_6_method_21_code
def yX4_clear : MethodName := ⟨RX4, "clear", "(II)I"⟩
abbrev cX4_put : ByteArray := prog_6_method_22_code
def yX4_put : MethodName := ⟨RX4, "put", "(IIZ)I"⟩
abbrev cX4_join : ByteArray := prog_6_method_23_code
def yX4_join : MethodName := ⟨RX4, "join", "(IIII)I"⟩
abbrev cX4_member : ByteArray := prog_6_method_24_code
def yX4_member : MethodName := ⟨RX4, "member", "(II)I"⟩
abbrev cX4_about : ByteArray := prog_6_method_25_code
def yX4_about : MethodName := ⟨RX4, "about", "(II)I"⟩
abbrev cX4_items : ByteArray := prog_6_method_26_code
def yX4_items : MethodName := ⟨RX4, "items", "(I)I"⟩
abbrev cX4_kindOf : ByteArray := prog_6_method_27_code
def yX4_kindOf : MethodName := ⟨RX4, "kindOf", "(II)I"⟩
abbrev cX4_wrong : ByteArray := prog_6_method_28_code
def yX4_wrong : MethodName := ⟨RX4, "wrong", "(I[II)I"⟩
abbrev cX4_take : ByteArray := prog_6_method_29_code
def yX4_take : MethodName := ⟨RX4, "take", "(I[II)V"⟩
abbrev cX4_record : ByteArray := prog_6_method_30_code
def yX4_record : MethodName := ⟨RX4, "record", "(IIIII)I"⟩
abbrev cX4_isCell : ByteArray := prog_6_method_31_code
def yX4_isCell : MethodName := ⟨RX4, "isCell", "(III)Z"⟩
abbrev cX4_lay : ByteArray := prog_6_method_32_code
def yX4_lay : MethodName := ⟨RX4, "lay", "(IIII)I"⟩
abbrev cX4_toldOf : ByteArray := prog_6_method_33_code
def yX4_toldOf : MethodName := ⟨RX4, "toldOf", "(III)I"⟩
abbrev cX4_cell : ByteArray := prog_6_method_34_code
def yX4_cell : MethodName := ⟨RX4, "cell", "(III)I"⟩
abbrev cX4_back : ByteArray := prog_6_method_35_code
def yX4_back : MethodName := ⟨RX4, "back", "(II)I"⟩
abbrev cX4_part : ByteArray := prog_6_method_36_code
def yX4_part : MethodName := ⟨RX4, "part", "(I)I"⟩
abbrev cX4_filter : ByteArray := prog_6_method_37_code
def yX4_filter : MethodName := ⟨RX4, "filter", "(IIIII)I"⟩
abbrev cX4_found : ByteArray := prog_6_method_38_code
def yX4_found : MethodName := ⟨RX4, "found", "(I)I"⟩
abbrev cX4_sum : ByteArray := prog_6_method_39_code
def yX4_sum : MethodName := ⟨RX4, "sum", "(I)J"⟩
abbrev cX4_count : ByteArray := prog_6_method_40_code
def yX4_count : MethodName := ⟨RX4, "count", "(I)I"⟩
def RJ6 : String := "java/lang/Integer"
def TJ6 : u_T := fun k => match k with
  | _ => ("", "", "", false)
def tyJ6 : Nat → FieldType := fun k => match k with
  | _ => .int
abbrev wsJ60 : List Cond := u_ws RJ6 TJ6 0
theorem nmJ6 : ∀ a, a < 0 → ∀ b, b < 0 → a ≠ b → (TJ6 a).2.1 ≠ (TJ6 b).2.1 := by decide +kernel
theorem tyJ6_ok : ∀ k, k < 0 → parseFieldDescriptor (TJ6 k).2.2.1 = some (tyJ6 k) := by decide +kernel
abbrev cJ6_bitCount_0f7a4 : ByteArray := prog_7_method_49_code
def yJ6_bitCount_0f7a4 : MethodName := ⟨RJ6, "bitCount", "(I)I"⟩
def RL : String := "RecordLabelsLaw"
abbrev cL_law : ByteArray := code
def yL_law : MethodName := ⟨RL, "law", "([I)Z"⟩
def wsX0_init : List Cond := .code yX0_init cX0_init 4 none :: ([.methodLink RX0 3 objectInit, .instanceMethod objectInit, .code objectInit ⟨#[0xb1]⟩ 1 none, .fieldLink RX0 9 "RecordLabels$Kind" "start" "I", .fieldLink RX0 15 "RecordLabels$Kind" "toldToFail" "Z", .fieldLink RX0 19 "RecordLabels$Kind" "number" "I", .fieldLink RX0 22 "RecordLabels$Kind" "names" "[J", .fieldLink RX0 26 "RecordLabels$Kind" "size" "I", .arrayClass .int, .fieldLink RX0 29 "RecordLabels$Kind" "constants" "[I", .fieldLink RX0 33 "RecordLabels$Kind" "codes" "[I"] ++ wsX00)
def wsX0_has : List Cond := .code yX0_has cX0_has 2 (some .boolean) :: ([.fieldLink RX0 26 "RecordLabels$Kind" "size" "I"] ++ wsX00)
def wsX0_constantOf : List Cond := .code yX0_constantOf cX0_constantOf 2 (some .int) :: ([.fieldLink RX0 29 "RecordLabels$Kind" "constants" "[I", .methodLink RX0 36 yX0_has, .instanceMethod yX0_has, .selects RX0 yX0_has yX0_has, .initialized RX0, .code yX0_has cX0_has 2 (some .boolean), .fieldLink RX0 26 "RecordLabels$Kind" "size" "I"] ++ wsX00)
def wsX0_codeOf : List Cond := .code yX0_codeOf cX0_codeOf 2 (some .int) :: ([.fieldLink RX0 33 "RecordLabels$Kind" "codes" "[I", .methodLink RX0 36 yX0_has, .instanceMethod yX0_has, .selects RX0 yX0_has yX0_has, .initialized RX0, .code yX0_has cX0_has 2 (some .boolean), .fieldLink RX0 26 "RecordLabels$Kind" "size" "I"] ++ wsX00)
def wsX0_constantNamed : List Cond := .code yX0_constantNamed cX0_constantNamed 4 (some .int) :: ([.fieldLink RX0 26 "RecordLabels$Kind" "size" "I", .fieldLink RX0 22 "RecordLabels$Kind" "names" "[J"] ++ wsX00)
def wsX0_nameOf : List Cond := .code yX0_nameOf cX0_nameOf 2 (some .long) :: ([.fieldLink RX0 22 "RecordLabels$Kind" "names" "[J", .methodLink RX0 36 yX0_has, .instanceMethod yX0_has, .selects RX0 yX0_has yX0_has, .initialized RX0, .code yX0_has cX0_has 2 (some .boolean), .fieldLink RX0 26 "RecordLabels$Kind" "size" "I"] ++ wsX00)
def wsX0_giveCode : List Cond := .code yX0_giveCode cX0_giveCode 3 none :: ([.fieldLink RX0 29 "RecordLabels$Kind" "constants" "[I", .fieldLink RX0 33 "RecordLabels$Kind" "codes" "[I", .methodLink RX0 36 yX0_has, .instanceMethod yX0_has, .selects RX0 yX0_has yX0_has, .initialized RX0, .code yX0_has cX0_has 2 (some .boolean), .fieldLink RX0 26 "RecordLabels$Kind" "size" "I"] ++ wsX00)
def wsX0_exchange : List Cond := .code yX0_exchange cX0_exchange 5 none :: ([.methodLink RX0 40 yX0_constantOf, .instanceMethod yX0_constantOf, .selects RX0 yX0_constantOf yX0_constantOf, .initialized RX0, .code yX0_constantOf cX0_constantOf 2 (some .int), .fieldLink RX0 29 "RecordLabels$Kind" "constants" "[I", .methodLink RX0 36 yX0_has, .instanceMethod yX0_has, .selects RX0 yX0_has yX0_has, .code yX0_has cX0_has 2 (some .boolean), .fieldLink RX0 26 "RecordLabels$Kind" "size" "I", .methodLink RX0 44 yX0_giveCode, .instanceMethod yX0_giveCode, .selects RX0 yX0_giveCode yX0_giveCode, .code yX0_giveCode cX0_giveCode 3 none, .fieldLink RX0 33 "RecordLabels$Kind" "codes" "[I"] ++ wsX00)
def wsX0_startForRule : List Cond := .code yX0_startForRule cX0_startForRule 1 (some .int) :: ([.fieldLink RX0 9 "RecordLabels$Kind" "start" "I", .fieldLink RX0 15 "RecordLabels$Kind" "toldToFail" "Z"] ++ wsX00)
def wsX1_init : List Cond := .code yX1_init cX1_init 2 none :: ([.methodLink RX1 1 objectInit, .instanceMethod objectInit, .code objectInit ⟨#[0xb1]⟩ 1 none, .fieldLink RX1 7 "RecordLabels$LabelSet" "members" "I", .fieldLink RX1 13 "RecordLabels$LabelSet" "kind" "LRecordLabels$Kind;"] ++ wsX10)
def wsJ6_bitCount_0f7a4 : List Cond := .code yJ6_bitCount_0f7a4 cJ6_bitCount_0f7a4 1 (some .int) :: ([.constant RJ6 265 (1431655765), .constant RJ6 266 (858993459), .constant RJ6 267 (252645135)])
def wsX1_size : List Cond := .code yX1_size cX1_size 1 (some .int) :: ([.fieldLink RX1 7 "RecordLabels$LabelSet" "members" "I", .methodLink RX1 17 yJ6_bitCount_0f7a4, .static yJ6_bitCount_0f7a4, .initialized RJ6, .code yJ6_bitCount_0f7a4 cJ6_bitCount_0f7a4 1 (some .int), .constant RJ6 265 (1431655765), .constant RJ6 266 (858993459), .constant RJ6 267 (252645135)] ++ wsX10)
def wsX1_holds : List Cond := .code yX1_holds cX1_holds 2 (some .boolean) :: ([.fieldLink RX1 13 "RecordLabels$LabelSet" "kind" "LRecordLabels$Kind;", .fieldLink RX1 7 "RecordLabels$LabelSet" "members" "I", .instanceMethod yX0_has, .initialized RX0, .selects RX0 yX0_has yX0_has, .code yX0_has cX0_has 2 (some .boolean), .fieldLink RX0 26 "RecordLabels$Kind" "size" "I"] ++ wsX10 ++ wsX00)
def wsX1_become : List Cond := .code yX1_become cX1_become 3 none :: ([.fieldLink RX1 13 "RecordLabels$LabelSet" "kind" "LRecordLabels$Kind;", .fieldLink RX1 7 "RecordLabels$LabelSet" "members" "I"] ++ wsX10)
def wsX2_init : List Cond := .code yX2_init cX2_init 4 none :: ([.methodLink RX2 3 objectInit, .instanceMethod objectInit, .code objectInit ⟨#[0xb1]⟩ 1 none, .fieldLink RX2 9 "RecordLabels$Table" "size" "I", .fieldLink RX2 15 "RecordLabels$Table" "kind" "LRecordLabels$Kind;", .fieldLink RX2 19 "RecordLabels$Table" "items" "I", .fieldLink RX2 22 "RecordLabels$Table" "measure" "I", .classLink RX2 25 "[[I", .arrayClass .int, .fieldLink RX2 27 "RecordLabels$Table" "columns" "[[I"] ++ wsX20)
def wsX2_hasRecord : List Cond := .code yX2_hasRecord cX2_hasRecord 2 (some .boolean) :: ([.fieldLink RX2 9 "RecordLabels$Table" "size" "I"] ++ wsX20)
def wsX2_hasItem : List Cond := .code yX2_hasItem cX2_hasItem 2 (some .boolean) :: ([.fieldLink RX2 19 "RecordLabels$Table" "items" "I"] ++ wsX20)
def wsX3_init_r1 : List Cond := [Cond.methodLink RX3 1 objectInit, Cond.instanceMethod objectInit, Cond.code objectInit ⟨#[0xb1]⟩ 1 none, Cond.classLink RX3 7 RX0, Cond.instantiable RX0 7, Cond.initialized RX0, Cond.fieldLink RX3 11 "RecordLabels" "NODE_NAMES" "[J", Cond.fieldLink RX3 18 "RecordLabels" "nodeKind" "LRecordLabels$Kind;", Cond.fieldLink RX3 22 "RecordLabels" "ARC_NAMES" "[J", Cond.fieldLink RX3 25 "RecordLabels" "arcKind" "LRecordLabels$Kind;", Cond.fieldLink RX3 28 "RecordLabels" "SIGN_NAMES" "[J", Cond.fieldLink RX3 31 "RecordLabels" "signKind" "LRecordLabels$Kind;", Cond.classLink RX3 34 RX1, Cond.fieldLink RX3 36 "RecordLabels" "sets" "[LRecordLabels$LabelSet;", Cond.classLink RX3 40 RX2, Cond.instantiable RX2 5, Cond.initialized RX2, Cond.fieldLink RX3 45 "RecordLabels" "nodeTable" "LRecordLabels$Table;", Cond.fieldLink RX3 49 "RecordLabels" "arcTable" "LRecordLabels$Table;", Cond.fieldLink RX3 52 "RecordLabels" "lastResult" "J", Cond.fieldLink RX3 56 "RecordLabels" "ruleFailures" "I", Cond.fieldLink RX3 60 "RecordLabels" "wrongRecords" "I", Cond.arrayClass .int, Cond.fieldLink RX3 63 "RecordLabels" "draft" "[I"]
def wsX3_init_r2 : List Cond := [Cond.fieldLink RX3 67 "RecordLabels" "parts" "[I", Cond.fieldLink RX3 70 "RecordLabels" "partsTable" "LRecordLabels$Table;", Cond.fieldLink RX3 73 "RecordLabels" "foundRecords" "[I", Cond.fieldLink RX3 76 "RecordLabels" "foundSize" "I", Cond.instantiable RX1 2, Cond.initialized RX1, Cond.instanceMethod yX0_init, Cond.code yX0_init cX0_init 4 none, Cond.methodLink RX0 3 objectInit, Cond.fieldLink RX0 9 "RecordLabels$Kind" "start" "I", Cond.fieldLink RX0 15 "RecordLabels$Kind" "toldToFail" "Z", Cond.fieldLink RX0 19 "RecordLabels$Kind" "number" "I", Cond.fieldLink RX0 22 "RecordLabels$Kind" "names" "[J", Cond.fieldLink RX0 26 "RecordLabels$Kind" "size" "I", Cond.fieldLink RX0 29 "RecordLabels$Kind" "constants" "[I", Cond.fieldLink RX0 33 "RecordLabels$Kind" "codes" "[I", Cond.instanceMethod yX2_init, Cond.code yX2_init cX2_init 4 none, Cond.methodLink RX2 3 objectInit, Cond.fieldLink RX2 9 "RecordLabels$Table" "size" "I", Cond.fieldLink RX2 15 "RecordLabels$Table" "kind" "LRecordLabels$Kind;", Cond.fieldLink RX2 19 "RecordLabels$Table" "items" "I", Cond.fieldLink RX2 22 "RecordLabels$Table" "measure" "I", Cond.classLink RX2 25 "[[I"]
def wsX3_init_r3 : List Cond := [Cond.fieldLink RX2 27 "RecordLabels$Table" "columns" "[[I", Cond.instanceMethod yX1_init, Cond.code yX1_init cX1_init 2 none, Cond.methodLink RX1 1 objectInit, Cond.fieldLink RX1 7 "RecordLabels$LabelSet" "members" "I", Cond.fieldLink RX1 13 "RecordLabels$LabelSet" "kind" "LRecordLabels$Kind;"]
def wsX3_init : List Cond := .code yX3_init cX3_init 2 none :: ((wsX3_init_r1 ++ (wsX3_init_r2 ++ wsX3_init_r3)) ++ wsX00 ++ wsX30 ++ wsX20 ++ wsX10)
def wsX3_kindNumbered : List Cond := .code yX3_kindNumbered cX3_kindNumbered 2 (some (.object "RecordLabels$Kind")) :: ([.fieldLink RX3 18 "RecordLabels" "nodeKind" "LRecordLabels$Kind;", .fieldLink RX3 25 "RecordLabels" "arcKind" "LRecordLabels$Kind;", .fieldLink RX3 31 "RecordLabels" "signKind" "LRecordLabels$Kind;"] ++ wsX30)
def wsX3_code : List Cond := .code yX3_code cX3_code 6 (some .int) :: ([.methodLink RX3 82 yX3_kindNumbered, .instanceMethod yX3_kindNumbered, .selects RX3 yX3_kindNumbered yX3_kindNumbered, .initialized RX3, .code yX3_kindNumbered cX3_kindNumbered 2 (some (.object "RecordLabels$Kind")), .fieldLink RX3 18 "RecordLabels" "nodeKind" "LRecordLabels$Kind;", .fieldLink RX3 25 "RecordLabels" "arcKind" "LRecordLabels$Kind;", .fieldLink RX3 31 "RecordLabels" "signKind" "LRecordLabels$Kind;", .instanceMethod yX0_constantNamed, .initialized RX0, .selects RX0 yX0_constantNamed yX0_constantNamed, .code yX0_constantNamed cX0_constantNamed 4 (some .int), .fieldLink RX0 26 "RecordLabels$Kind" "size" "I", .fieldLink RX0 22 "RecordLabels$Kind" "names" "[J", .instanceMethod yX0_codeOf, .selects RX0 yX0_codeOf yX0_codeOf, .code yX0_codeOf cX0_codeOf 2 (some .int), .fieldLink RX0 33 "RecordLabels$Kind" "codes" "[I", .methodLink RX0 36 yX0_has, .instanceMethod yX0_has, .selects RX0 yX0_has yX0_has, .code yX0_has cX0_has 2 (some .boolean)] ++ wsX30 ++ wsX00)
def wsX3_name : List Cond := .code yX3_name cX3_name 4 (some .long) :: ([.methodLink RX3 82 yX3_kindNumbered, .instanceMethod yX3_kindNumbered, .selects RX3 yX3_kindNumbered yX3_kindNumbered, .initialized RX3, .code yX3_kindNumbered cX3_kindNumbered 2 (some (.object "RecordLabels$Kind")), .fieldLink RX3 18 "RecordLabels" "nodeKind" "LRecordLabels$Kind;", .fieldLink RX3 25 "RecordLabels" "arcKind" "LRecordLabels$Kind;", .fieldLink RX3 31 "RecordLabels" "signKind" "LRecordLabels$Kind;", .instanceMethod yX0_constantOf, .initialized RX0, .selects RX0 yX0_constantOf yX0_constantOf, .code yX0_constantOf cX0_constantOf 2 (some .int), .fieldLink RX0 29 "RecordLabels$Kind" "constants" "[I", .methodLink RX0 36 yX0_has, .instanceMethod yX0_has, .selects RX0 yX0_has yX0_has, .code yX0_has cX0_has 2 (some .boolean), .fieldLink RX0 26 "RecordLabels$Kind" "size" "I", .instanceMethod yX0_nameOf, .selects RX0 yX0_nameOf yX0_nameOf, .code yX0_nameOf cX0_nameOf 2 (some .long), .fieldLink RX0 22 "RecordLabels$Kind" "names" "[J"] ++ wsX30 ++ wsX00)
def wsX3_swap_r1 : List Cond := [Cond.methodLink RX3 82 yX3_kindNumbered, Cond.instanceMethod yX3_kindNumbered, Cond.selects RX3 yX3_kindNumbered yX3_kindNumbered, Cond.initialized RX3, Cond.code yX3_kindNumbered cX3_kindNumbered 2 (some (.object "RecordLabels$Kind")), Cond.fieldLink RX3 18 "RecordLabels" "nodeKind" "LRecordLabels$Kind;", Cond.fieldLink RX3 25 "RecordLabels" "arcKind" "LRecordLabels$Kind;", Cond.fieldLink RX3 31 "RecordLabels" "signKind" "LRecordLabels$Kind;", Cond.instanceMethod yX0_has, Cond.initialized RX0, Cond.selects RX0 yX0_has yX0_has, Cond.code yX0_has cX0_has 2 (some .boolean), Cond.fieldLink RX0 26 "RecordLabels$Kind" "size" "I", Cond.instanceMethod yX0_exchange, Cond.selects RX0 yX0_exchange yX0_exchange, Cond.code yX0_exchange cX0_exchange 5 none, Cond.methodLink RX0 40 yX0_constantOf, Cond.instanceMethod yX0_constantOf, Cond.selects RX0 yX0_constantOf yX0_constantOf, Cond.code yX0_constantOf cX0_constantOf 2 (some .int), Cond.fieldLink RX0 29 "RecordLabels$Kind" "constants" "[I", Cond.methodLink RX0 36 yX0_has, Cond.methodLink RX0 44 yX0_giveCode, Cond.instanceMethod yX0_giveCode]
def wsX3_swap_r2 : List Cond := [Cond.selects RX0 yX0_giveCode yX0_giveCode, Cond.code yX0_giveCode cX0_giveCode 3 none, Cond.fieldLink RX0 33 "RecordLabels$Kind" "codes" "[I"]
def wsX3_swap : List Cond := .code yX3_swap cX3_swap 5 (some .int) :: ((wsX3_swap_r1 ++ wsX3_swap_r2) ++ wsX30 ++ wsX00)
def wsX3_arcRuleAnswer : List Cond := .code yX3_arcRuleAnswer cX3_arcRuleAnswer 3 (some .int) :: ([.fieldLink RX3 216 "RecordLabels" "WITHIN_ITEMS" "[J"])
def wsX3_askRule : List Cond := .code yX3_askRule cX3_askRule 7 (some .int) :: ([.fieldLink RX3 25 "RecordLabels" "arcKind" "LRecordLabels$Kind;", .fieldLink RX3 56 "RecordLabels" "ruleFailures" "I", .instanceMethod yX0_startForRule, .initialized RX0, .selects RX0 yX0_startForRule yX0_startForRule, .code yX0_startForRule cX0_startForRule 1 (some .int), .fieldLink RX0 9 "RecordLabels$Kind" "start" "I", .fieldLink RX0 15 "RecordLabels$Kind" "toldToFail" "Z", .methodLink RX3 212 yX3_arcRuleAnswer, .static yX3_arcRuleAnswer, .initialized RX3, .code yX3_arcRuleAnswer cX3_arcRuleAnswer 3 (some .int), .fieldLink RX3 216 "RecordLabels" "WITHIN_ITEMS" "[J"] ++ wsX30 ++ wsX00)
def wsX3_nodeValue : List Cond := .code yX3_nodeValue cX3_nodeValue 3 (some .long) :: ([.constantLong RX3 226 (2), .constantLong RX3 228 (10)])
def wsX3_arcValue : List Cond := .code yX3_arcValue cX3_arcValue 3 (some .long) :: ([.constantLong RX3 226 (2), .constantLong RX3 230 (100), .fieldLink RX3 216 "RecordLabels" "WITHIN_ITEMS" "[J"])
def wsX3_valueOf : List Cond := .code yX3_valueOf cX3_valueOf 4 (some .long) :: ([.methodLink RX3 219 yX3_nodeValue, .static yX3_nodeValue, .initialized RX3, .code yX3_nodeValue cX3_nodeValue 3 (some .long), .constantLong RX3 226 (2), .constantLong RX3 228 (10), .methodLink RX3 223 yX3_arcValue, .static yX3_arcValue, .code yX3_arcValue cX3_arcValue 3 (some .long), .constantLong RX3 230 (100), .fieldLink RX3 216 "RecordLabels" "WITHIN_ITEMS" "[J"] ++ wsX00)
def wsX3_rule_r1 : List Cond := [Cond.fieldLink RX3 52 "RecordLabels" "lastResult" "J", Cond.methodLink RX3 82 yX3_kindNumbered, Cond.instanceMethod yX3_kindNumbered, Cond.selects RX3 yX3_kindNumbered yX3_kindNumbered, Cond.initialized RX3, Cond.code yX3_kindNumbered cX3_kindNumbered 2 (some (.object "RecordLabels$Kind")), Cond.fieldLink RX3 18 "RecordLabels" "nodeKind" "LRecordLabels$Kind;", Cond.fieldLink RX3 25 "RecordLabels" "arcKind" "LRecordLabels$Kind;", Cond.fieldLink RX3 31 "RecordLabels" "signKind" "LRecordLabels$Kind;", Cond.instanceMethod yX0_has, Cond.initialized RX0, Cond.selects RX0 yX0_has yX0_has, Cond.code yX0_has cX0_has 2 (some .boolean), Cond.fieldLink RX0 26 "RecordLabels$Kind" "size" "I", Cond.instanceMethod yX0_constantOf, Cond.selects RX0 yX0_constantOf yX0_constantOf, Cond.code yX0_constantOf cX0_constantOf 2 (some .int), Cond.fieldLink RX0 29 "RecordLabels$Kind" "constants" "[I", Cond.methodLink RX0 36 yX0_has, Cond.methodLink RX3 109 yX3_askRule, Cond.instanceMethod yX3_askRule, Cond.selects RX3 yX3_askRule yX3_askRule, Cond.code yX3_askRule cX3_askRule 7 (some .int), Cond.fieldLink RX3 56 "RecordLabels" "ruleFailures" "I"]
def wsX3_rule_r2 : List Cond := [Cond.instanceMethod yX0_startForRule, Cond.selects RX0 yX0_startForRule yX0_startForRule, Cond.code yX0_startForRule cX0_startForRule 1 (some .int), Cond.fieldLink RX0 9 "RecordLabels$Kind" "start" "I", Cond.fieldLink RX0 15 "RecordLabels$Kind" "toldToFail" "Z", Cond.methodLink RX3 212 yX3_arcRuleAnswer, Cond.static yX3_arcRuleAnswer, Cond.code yX3_arcRuleAnswer cX3_arcRuleAnswer 3 (some .int), Cond.fieldLink RX3 216 "RecordLabels" "WITHIN_ITEMS" "[J", Cond.methodLink RX3 113 yX3_valueOf, Cond.static yX3_valueOf, Cond.code yX3_valueOf cX3_valueOf 4 (some .long), Cond.methodLink RX3 219 yX3_nodeValue, Cond.static yX3_nodeValue, Cond.code yX3_nodeValue cX3_nodeValue 3 (some .long), Cond.constantLong RX3 226 (2), Cond.constantLong RX3 228 (10), Cond.methodLink RX3 223 yX3_arcValue, Cond.static yX3_arcValue, Cond.code yX3_arcValue cX3_arcValue 3 (some .long), Cond.constantLong RX3 230 (100)]
def wsX3_rule : List Cond := .code yX3_rule cX3_rule 8 (some .int) :: ((wsX3_rule_r1 ++ wsX3_rule_r2) ++ wsX30 ++ wsX00)
def wsX3_result : List Cond := .code yX3_result cX3_result 1 (some .long) :: ([.fieldLink RX3 52 "RecordLabels" "lastResult" "J"] ++ wsX30)
def wsX3_oneIf : List Cond := .code yX3_oneIf cX3_oneIf 1 (some .int) :: ([])
def wsX3_fail : List Cond := .code yX3_fail cX3_fail 5 (some .int) :: ([.methodLink RX3 82 yX3_kindNumbered, .instanceMethod yX3_kindNumbered, .selects RX3 yX3_kindNumbered yX3_kindNumbered, .initialized RX3, .code yX3_kindNumbered cX3_kindNumbered 2 (some (.object "RecordLabels$Kind")), .fieldLink RX3 18 "RecordLabels" "nodeKind" "LRecordLabels$Kind;", .fieldLink RX3 25 "RecordLabels" "arcKind" "LRecordLabels$Kind;", .fieldLink RX3 31 "RecordLabels" "signKind" "LRecordLabels$Kind;", .methodLink RX3 124 yX3_oneIf, .static yX3_oneIf, .code yX3_oneIf cX3_oneIf 1 (some .int)] ++ wsX00 ++ wsX30)
def wsX3_started : List Cond := .code yX3_started cX3_started 3 (some .int) :: ([.methodLink RX3 82 yX3_kindNumbered, .instanceMethod yX3_kindNumbered, .selects RX3 yX3_kindNumbered yX3_kindNumbered, .initialized RX3, .code yX3_kindNumbered cX3_kindNumbered 2 (some (.object "RecordLabels$Kind")), .fieldLink RX3 18 "RecordLabels" "nodeKind" "LRecordLabels$Kind;", .fieldLink RX3 25 "RecordLabels" "arcKind" "LRecordLabels$Kind;", .fieldLink RX3 31 "RecordLabels" "signKind" "LRecordLabels$Kind;"] ++ wsX00 ++ wsX30)
def wsX3_setNumbered : List Cond := .code yX3_setNumbered cX3_setNumbered 2 (some (.object "RecordLabels$LabelSet")) :: ([.fieldLink RX3 36 "RecordLabels" "sets" "[LRecordLabels$LabelSet;"] ++ wsX30)
def wsX3_clear_r1 : List Cond := [Cond.methodLink RX3 128 yX3_setNumbered, Cond.instanceMethod yX3_setNumbered, Cond.selects RX3 yX3_setNumbered yX3_setNumbered, Cond.initialized RX3, Cond.code yX3_setNumbered cX3_setNumbered 2 (some (.object "RecordLabels$LabelSet")), Cond.fieldLink RX3 36 "RecordLabels" "sets" "[LRecordLabels$LabelSet;", Cond.methodLink RX3 82 yX3_kindNumbered, Cond.instanceMethod yX3_kindNumbered, Cond.selects RX3 yX3_kindNumbered yX3_kindNumbered, Cond.code yX3_kindNumbered cX3_kindNumbered 2 (some (.object "RecordLabels$Kind")), Cond.fieldLink RX3 18 "RecordLabels" "nodeKind" "LRecordLabels$Kind;", Cond.fieldLink RX3 25 "RecordLabels" "arcKind" "LRecordLabels$Kind;", Cond.fieldLink RX3 31 "RecordLabels" "signKind" "LRecordLabels$Kind;", Cond.instanceMethod yX1_size, Cond.initialized RX1, Cond.selects RX1 yX1_size yX1_size, Cond.code yX1_size cX1_size 1 (some .int), Cond.fieldLink RX1 7 "RecordLabels$LabelSet" "members" "I", Cond.methodLink RX1 17 yJ6_bitCount_0f7a4, Cond.static yJ6_bitCount_0f7a4, Cond.initialized RJ6, Cond.code yJ6_bitCount_0f7a4 cJ6_bitCount_0f7a4 1 (some .int), Cond.constant RJ6 265 (1431655765), Cond.constant RJ6 266 (858993459)]
def wsX3_clear_r2 : List Cond := [Cond.constant RJ6 267 (252645135), Cond.instanceMethod yX1_become, Cond.selects RX1 yX1_become yX1_become, Cond.code yX1_become cX1_become 3 none, Cond.fieldLink RX1 13 "RecordLabels$LabelSet" "kind" "LRecordLabels$Kind;"]
def wsX3_clear : List Cond := .code yX3_clear cX3_clear 6 (some .int) :: ((wsX3_clear_r1 ++ wsX3_clear_r2) ++ wsX30 ++ wsX10)
def wsX3_put_r1 : List Cond := [Cond.methodLink RX3 128 yX3_setNumbered, Cond.instanceMethod yX3_setNumbered, Cond.selects RX3 yX3_setNumbered yX3_setNumbered, Cond.initialized RX3, Cond.code yX3_setNumbered cX3_setNumbered 2 (some (.object "RecordLabels$LabelSet")), Cond.fieldLink RX3 36 "RecordLabels" "sets" "[LRecordLabels$LabelSet;", Cond.instanceMethod yX0_has, Cond.initialized RX0, Cond.selects RX0 yX0_has yX0_has, Cond.code yX0_has cX0_has 2 (some .boolean), Cond.fieldLink RX0 26 "RecordLabels$Kind" "size" "I", Cond.instanceMethod yX0_constantOf, Cond.selects RX0 yX0_constantOf yX0_constantOf, Cond.code yX0_constantOf cX0_constantOf 2 (some .int), Cond.fieldLink RX0 29 "RecordLabels$Kind" "constants" "[I", Cond.methodLink RX0 36 yX0_has, Cond.instanceMethod yX1_holds, Cond.initialized RX1, Cond.selects RX1 yX1_holds yX1_holds, Cond.code yX1_holds cX1_holds 2 (some .boolean), Cond.fieldLink RX1 13 "RecordLabels$LabelSet" "kind" "LRecordLabels$Kind;", Cond.fieldLink RX1 7 "RecordLabels$LabelSet" "members" "I", Cond.methodLink RX3 124 yX3_oneIf, Cond.static yX3_oneIf]
def wsX3_put_r2 : List Cond := [Cond.code yX3_oneIf cX3_oneIf 1 (some .int)]
def wsX3_put : List Cond := .code yX3_put cX3_put 8 (some .int) :: ((wsX3_put_r1 ++ wsX3_put_r2) ++ wsX10 ++ wsX30 ++ wsX00)
def wsX3_joined : List Cond := .code yX3_joined cX3_joined 3 (some .int) :: ([] ++ wsX10 ++ wsX00)
def wsX3_join_r1 : List Cond := [Cond.methodLink RX3 128 yX3_setNumbered, Cond.instanceMethod yX3_setNumbered, Cond.selects RX3 yX3_setNumbered yX3_setNumbered, Cond.initialized RX3, Cond.code yX3_setNumbered cX3_setNumbered 2 (some (.object "RecordLabels$LabelSet")), Cond.fieldLink RX3 36 "RecordLabels" "sets" "[LRecordLabels$LabelSet;", Cond.methodLink RX3 149 yX3_joined, Cond.static yX3_joined, Cond.code yX3_joined cX3_joined 3 (some .int), Cond.instanceMethod yX1_become, Cond.initialized RX1, Cond.selects RX1 yX1_become yX1_become, Cond.code yX1_become cX1_become 3 none, Cond.fieldLink RX1 13 "RecordLabels$LabelSet" "kind" "LRecordLabels$Kind;", Cond.fieldLink RX1 7 "RecordLabels$LabelSet" "members" "I", Cond.instanceMethod yX1_size, Cond.selects RX1 yX1_size yX1_size, Cond.code yX1_size cX1_size 1 (some .int), Cond.methodLink RX1 17 yJ6_bitCount_0f7a4, Cond.static yJ6_bitCount_0f7a4, Cond.initialized RJ6, Cond.code yJ6_bitCount_0f7a4 cJ6_bitCount_0f7a4 1 (some .int), Cond.constant RJ6 265 (1431655765), Cond.constant RJ6 266 (858993459)]
def wsX3_join_r2 : List Cond := [Cond.constant RJ6 267 (252645135)]
def wsX3_join : List Cond := .code yX3_join cX3_join 8 (some .int) :: ((wsX3_join_r1 ++ wsX3_join_r2) ++ wsX10 ++ wsX30 ++ wsX00)
def wsX3_member : List Cond := .code yX3_member cX3_member 6 (some .int) :: ([.methodLink RX3 128 yX3_setNumbered, .instanceMethod yX3_setNumbered, .selects RX3 yX3_setNumbered yX3_setNumbered, .initialized RX3, .code yX3_setNumbered cX3_setNumbered 2 (some (.object "RecordLabels$LabelSet")), .fieldLink RX3 36 "RecordLabels" "sets" "[LRecordLabels$LabelSet;", .instanceMethod yX0_constantOf, .initialized RX0, .selects RX0 yX0_constantOf yX0_constantOf, .code yX0_constantOf cX0_constantOf 2 (some .int), .fieldLink RX0 29 "RecordLabels$Kind" "constants" "[I", .methodLink RX0 36 yX0_has, .instanceMethod yX0_has, .selects RX0 yX0_has yX0_has, .code yX0_has cX0_has 2 (some .boolean), .fieldLink RX0 26 "RecordLabels$Kind" "size" "I", .instanceMethod yX1_holds, .initialized RX1, .selects RX1 yX1_holds yX1_holds, .code yX1_holds cX1_holds 2 (some .boolean), .fieldLink RX1 13 "RecordLabels$LabelSet" "kind" "LRecordLabels$Kind;", .fieldLink RX1 7 "RecordLabels$LabelSet" "members" "I"] ++ wsX10 ++ wsX00 ++ wsX30)
def wsX3_about : List Cond := .code yX3_about cX3_about 4 (some .int) :: ([.methodLink RX3 128 yX3_setNumbered, .instanceMethod yX3_setNumbered, .selects RX3 yX3_setNumbered yX3_setNumbered, .initialized RX3, .code yX3_setNumbered cX3_setNumbered 2 (some (.object "RecordLabels$LabelSet")), .fieldLink RX3 36 "RecordLabels" "sets" "[LRecordLabels$LabelSet;", .instanceMethod yX1_size, .initialized RX1, .selects RX1 yX1_size yX1_size, .code yX1_size cX1_size 1 (some .int), .fieldLink RX1 7 "RecordLabels$LabelSet" "members" "I", .methodLink RX1 17 yJ6_bitCount_0f7a4, .static yJ6_bitCount_0f7a4, .initialized RJ6, .code yJ6_bitCount_0f7a4 cJ6_bitCount_0f7a4 1 (some .int), .constant RJ6 265 (1431655765), .constant RJ6 266 (858993459), .constant RJ6 267 (252645135)] ++ wsX10 ++ wsX00 ++ wsX30)
def wsX3_tableNumbered : List Cond := .code yX3_tableNumbered cX3_tableNumbered 2 (some (.object "RecordLabels$Table")) :: ([.fieldLink RX3 45 "RecordLabels" "nodeTable" "LRecordLabels$Table;", .fieldLink RX3 49 "RecordLabels" "arcTable" "LRecordLabels$Table;"] ++ wsX30)
def wsX3_kindOfItem : List Cond := .code yX3_kindOfItem cX3_kindOfItem 3 (some (.object "RecordLabels$Kind")) :: ([.fieldLink RX3 45 "RecordLabels" "nodeTable" "LRecordLabels$Table;", .fieldLink RX3 31 "RecordLabels" "signKind" "LRecordLabels$Kind;"] ++ wsX20 ++ wsX30)
def wsX3_toCell : List Cond := .code yX3_toCell cX3_toCell 5 (some .int) :: ([.methodLink RX3 232 yX3_kindOfItem, .instanceMethod yX3_kindOfItem, .selects RX3 yX3_kindOfItem yX3_kindOfItem, .initialized RX3, .code yX3_kindOfItem cX3_kindOfItem 3 (some (.object "RecordLabels$Kind")), .fieldLink RX3 45 "RecordLabels" "nodeTable" "LRecordLabels$Table;", .fieldLink RX3 31 "RecordLabels" "signKind" "LRecordLabels$Kind;", .instanceMethod yX0_constantOf, .initialized RX0, .selects RX0 yX0_constantOf yX0_constantOf, .code yX0_constantOf cX0_constantOf 2 (some .int), .fieldLink RX0 29 "RecordLabels$Kind" "constants" "[I", .methodLink RX0 36 yX0_has, .instanceMethod yX0_has, .selects RX0 yX0_has yX0_has, .code yX0_has cX0_has 2 (some .boolean), .fieldLink RX0 26 "RecordLabels$Kind" "size" "I"] ++ wsX20 ++ wsX30 ++ wsX00)
def wsX3_highestOf : List Cond := .code yX3_highestOf cX3_highestOf 4 (some .int) :: ([.fieldLink RX3 45 "RecordLabels" "nodeTable" "LRecordLabels$Table;", .constant RX3 240 (1000000), .methodLink RX3 232 yX3_kindOfItem, .instanceMethod yX3_kindOfItem, .selects RX3 yX3_kindOfItem yX3_kindOfItem, .initialized RX3, .code yX3_kindOfItem cX3_kindOfItem 3 (some (.object "RecordLabels$Kind")), .fieldLink RX3 31 "RecordLabels" "signKind" "LRecordLabels$Kind;"] ++ wsX00 ++ wsX20 ++ wsX30)
def wsX3_isFromTo : List Cond := .code yX3_isFromTo cX3_isFromTo 3 (some .boolean) :: ([])
def wsX3_wrongItem : List Cond := .code yX3_wrongItem cX3_wrongItem 3 (some .int) :: ([.fieldLink RX3 63 "RecordLabels" "draft" "[I", .fieldLink RX3 49 "RecordLabels" "arcTable" "LRecordLabels$Table;", .methodLink RX3 236 yX3_highestOf, .instanceMethod yX3_highestOf, .selects RX3 yX3_highestOf yX3_highestOf, .initialized RX3, .code yX3_highestOf cX3_highestOf 4 (some .int), .fieldLink RX3 45 "RecordLabels" "nodeTable" "LRecordLabels$Table;", .constant RX3 240 (1000000), .methodLink RX3 232 yX3_kindOfItem, .instanceMethod yX3_kindOfItem, .selects RX3 yX3_kindOfItem yX3_kindOfItem, .code yX3_kindOfItem cX3_kindOfItem 3 (some (.object "RecordLabels$Kind")), .fieldLink RX3 31 "RecordLabels" "signKind" "LRecordLabels$Kind;", .methodLink RX3 196 yX3_isFromTo, .static yX3_isFromTo, .code yX3_isFromTo cX3_isFromTo 3 (some .boolean)] ++ wsX20 ++ wsX30 ++ wsX00)
def wsX3_putTogether : List Cond := .code yX3_putTogether cX3_putTogether 4 (some .int) :: ([.fieldLink RX3 60 "RecordLabels" "wrongRecords" "I", .fieldLink RX3 67 "RecordLabels" "parts" "[I", .fieldLink RX3 63 "RecordLabels" "draft" "[I", .fieldLink RX3 70 "RecordLabels" "partsTable" "LRecordLabels$Table;", .methodLink RX3 193 yX3_wrongItem, .instanceMethod yX3_wrongItem, .selects RX3 yX3_wrongItem yX3_wrongItem, .initialized RX3, .code yX3_wrongItem cX3_wrongItem 3 (some .int), .fieldLink RX3 49 "RecordLabels" "arcTable" "LRecordLabels$Table;", .methodLink RX3 236 yX3_highestOf, .instanceMethod yX3_highestOf, .selects RX3 yX3_highestOf yX3_highestOf, .code yX3_highestOf cX3_highestOf 4 (some .int), .fieldLink RX3 45 "RecordLabels" "nodeTable" "LRecordLabels$Table;", .constant RX3 240 (1000000), .methodLink RX3 232 yX3_kindOfItem, .instanceMethod yX3_kindOfItem, .selects RX3 yX3_kindOfItem yX3_kindOfItem, .code yX3_kindOfItem cX3_kindOfItem 3 (some (.object "RecordLabels$Kind")), .fieldLink RX3 31 "RecordLabels" "signKind" "LRecordLabels$Kind;", .methodLink RX3 196 yX3_isFromTo, .static yX3_isFromTo, .code yX3_isFromTo cX3_isFromTo 3 (some .boolean)] ++ wsX30 ++ wsX20 ++ wsX00)
def wsX3_record_r1 : List Cond := [Cond.fieldLink RX3 63 "RecordLabels" "draft" "[I", Cond.methodLink RX3 158 yX3_tableNumbered, Cond.instanceMethod yX3_tableNumbered, Cond.selects RX3 yX3_tableNumbered yX3_tableNumbered, Cond.initialized RX3, Cond.code yX3_tableNumbered cX3_tableNumbered 2 (some (.object "RecordLabels$Table")), Cond.fieldLink RX3 45 "RecordLabels" "nodeTable" "LRecordLabels$Table;", Cond.fieldLink RX3 49 "RecordLabels" "arcTable" "LRecordLabels$Table;", Cond.methodLink RX3 163 yX3_toCell, Cond.instanceMethod yX3_toCell, Cond.selects RX3 yX3_toCell yX3_toCell, Cond.code yX3_toCell cX3_toCell 5 (some .int), Cond.methodLink RX3 232 yX3_kindOfItem, Cond.instanceMethod yX3_kindOfItem, Cond.selects RX3 yX3_kindOfItem yX3_kindOfItem, Cond.code yX3_kindOfItem cX3_kindOfItem 3 (some (.object "RecordLabels$Kind")), Cond.fieldLink RX3 31 "RecordLabels" "signKind" "LRecordLabels$Kind;", Cond.instanceMethod yX0_constantOf, Cond.initialized RX0, Cond.selects RX0 yX0_constantOf yX0_constantOf, Cond.code yX0_constantOf cX0_constantOf 2 (some .int), Cond.fieldLink RX0 29 "RecordLabels$Kind" "constants" "[I", Cond.methodLink RX0 36 yX0_has, Cond.instanceMethod yX0_has]
def wsX3_record_r2 : List Cond := [Cond.selects RX0 yX0_has yX0_has, Cond.code yX0_has cX0_has 2 (some .boolean), Cond.fieldLink RX0 26 "RecordLabels$Kind" "size" "I", Cond.methodLink RX3 167 yX3_putTogether, Cond.instanceMethod yX3_putTogether, Cond.selects RX3 yX3_putTogether yX3_putTogether, Cond.code yX3_putTogether cX3_putTogether 4 (some .int), Cond.fieldLink RX3 60 "RecordLabels" "wrongRecords" "I", Cond.fieldLink RX3 67 "RecordLabels" "parts" "[I", Cond.fieldLink RX3 70 "RecordLabels" "partsTable" "LRecordLabels$Table;", Cond.methodLink RX3 193 yX3_wrongItem, Cond.instanceMethod yX3_wrongItem, Cond.selects RX3 yX3_wrongItem yX3_wrongItem, Cond.code yX3_wrongItem cX3_wrongItem 3 (some .int), Cond.methodLink RX3 236 yX3_highestOf, Cond.instanceMethod yX3_highestOf, Cond.selects RX3 yX3_highestOf yX3_highestOf, Cond.code yX3_highestOf cX3_highestOf 4 (some .int), Cond.constant RX3 240 (1000000), Cond.methodLink RX3 196 yX3_isFromTo, Cond.static yX3_isFromTo, Cond.code yX3_isFromTo cX3_isFromTo 3 (some .boolean)]
def wsX3_record : List Cond := .code yX3_record cX3_record 9 (some .int) :: ((wsX3_record_r1 ++ wsX3_record_r2) ++ wsX20 ++ wsX30 ++ wsX00)
def wsX3_lay_r1 : List Cond := [Cond.methodLink RX3 158 yX3_tableNumbered, Cond.instanceMethod yX3_tableNumbered, Cond.selects RX3 yX3_tableNumbered yX3_tableNumbered, Cond.initialized RX3, Cond.code yX3_tableNumbered cX3_tableNumbered 2 (some (.object "RecordLabels$Table")), Cond.fieldLink RX3 45 "RecordLabels" "nodeTable" "LRecordLabels$Table;", Cond.fieldLink RX3 49 "RecordLabels" "arcTable" "LRecordLabels$Table;", Cond.instanceMethod yX2_hasRecord, Cond.initialized RX2, Cond.selects RX2 yX2_hasRecord yX2_hasRecord, Cond.code yX2_hasRecord cX2_hasRecord 2 (some .boolean), Cond.fieldLink RX2 9 "RecordLabels$Table" "size" "I", Cond.instanceMethod yX2_hasItem, Cond.selects RX2 yX2_hasItem yX2_hasItem, Cond.code yX2_hasItem cX2_hasItem 2 (some .boolean), Cond.fieldLink RX2 19 "RecordLabels$Table" "items" "I", Cond.methodLink RX3 163 yX3_toCell, Cond.instanceMethod yX3_toCell, Cond.selects RX3 yX3_toCell yX3_toCell, Cond.code yX3_toCell cX3_toCell 5 (some .int), Cond.methodLink RX3 232 yX3_kindOfItem, Cond.instanceMethod yX3_kindOfItem, Cond.selects RX3 yX3_kindOfItem yX3_kindOfItem, Cond.code yX3_kindOfItem cX3_kindOfItem 3 (some (.object "RecordLabels$Kind"))]
def wsX3_lay_r2 : List Cond := [Cond.fieldLink RX3 31 "RecordLabels" "signKind" "LRecordLabels$Kind;", Cond.instanceMethod yX0_constantOf, Cond.initialized RX0, Cond.selects RX0 yX0_constantOf yX0_constantOf, Cond.code yX0_constantOf cX0_constantOf 2 (some .int), Cond.fieldLink RX0 29 "RecordLabels$Kind" "constants" "[I", Cond.methodLink RX0 36 yX0_has, Cond.instanceMethod yX0_has, Cond.selects RX0 yX0_has yX0_has, Cond.code yX0_has cX0_has 2 (some .boolean), Cond.fieldLink RX0 26 "RecordLabels$Kind" "size" "I"]
def wsX3_lay : List Cond := .code yX3_lay cX3_lay 6 (some .int) :: ((wsX3_lay_r1 ++ wsX3_lay_r2) ++ wsX20 ++ wsX30 ++ wsX00)
def wsX3_fromCell : List Cond := .code yX3_fromCell cX3_fromCell 5 (some .int) :: ([.methodLink RX3 232 yX3_kindOfItem, .instanceMethod yX3_kindOfItem, .selects RX3 yX3_kindOfItem yX3_kindOfItem, .initialized RX3, .code yX3_kindOfItem cX3_kindOfItem 3 (some (.object "RecordLabels$Kind")), .fieldLink RX3 45 "RecordLabels" "nodeTable" "LRecordLabels$Table;", .fieldLink RX3 31 "RecordLabels" "signKind" "LRecordLabels$Kind;", .instanceMethod yX0_codeOf, .initialized RX0, .selects RX0 yX0_codeOf yX0_codeOf, .code yX0_codeOf cX0_codeOf 2 (some .int), .fieldLink RX0 33 "RecordLabels$Kind" "codes" "[I", .methodLink RX0 36 yX0_has, .instanceMethod yX0_has, .selects RX0 yX0_has yX0_has, .code yX0_has cX0_has 2 (some .boolean), .fieldLink RX0 26 "RecordLabels$Kind" "size" "I"] ++ wsX20 ++ wsX30 ++ wsX00)
def wsX3_cell_r1 : List Cond := [Cond.constant RX3 184 (-2000000000), Cond.methodLink RX3 158 yX3_tableNumbered, Cond.instanceMethod yX3_tableNumbered, Cond.selects RX3 yX3_tableNumbered yX3_tableNumbered, Cond.initialized RX3, Cond.code yX3_tableNumbered cX3_tableNumbered 2 (some (.object "RecordLabels$Table")), Cond.fieldLink RX3 45 "RecordLabels" "nodeTable" "LRecordLabels$Table;", Cond.fieldLink RX3 49 "RecordLabels" "arcTable" "LRecordLabels$Table;", Cond.instanceMethod yX2_hasRecord, Cond.initialized RX2, Cond.selects RX2 yX2_hasRecord yX2_hasRecord, Cond.code yX2_hasRecord cX2_hasRecord 2 (some .boolean), Cond.fieldLink RX2 9 "RecordLabels$Table" "size" "I", Cond.instanceMethod yX2_hasItem, Cond.selects RX2 yX2_hasItem yX2_hasItem, Cond.code yX2_hasItem cX2_hasItem 2 (some .boolean), Cond.fieldLink RX2 19 "RecordLabels$Table" "items" "I", Cond.methodLink RX3 185 yX3_fromCell, Cond.instanceMethod yX3_fromCell, Cond.selects RX3 yX3_fromCell yX3_fromCell, Cond.code yX3_fromCell cX3_fromCell 5 (some .int), Cond.methodLink RX3 232 yX3_kindOfItem, Cond.instanceMethod yX3_kindOfItem, Cond.selects RX3 yX3_kindOfItem yX3_kindOfItem]
def wsX3_cell_r2 : List Cond := [Cond.code yX3_kindOfItem cX3_kindOfItem 3 (some (.object "RecordLabels$Kind")), Cond.fieldLink RX3 31 "RecordLabels" "signKind" "LRecordLabels$Kind;", Cond.instanceMethod yX0_codeOf, Cond.initialized RX0, Cond.selects RX0 yX0_codeOf yX0_codeOf, Cond.code yX0_codeOf cX0_codeOf 2 (some .int), Cond.fieldLink RX0 33 "RecordLabels$Kind" "codes" "[I", Cond.methodLink RX0 36 yX0_has, Cond.instanceMethod yX0_has, Cond.selects RX0 yX0_has yX0_has, Cond.code yX0_has cX0_has 2 (some .boolean), Cond.fieldLink RX0 26 "RecordLabels$Kind" "size" "I"]
def wsX3_cell : List Cond := .code yX3_cell cX3_cell 5 (some .int) :: ((wsX3_cell_r1 ++ wsX3_cell_r2) ++ wsX20 ++ wsX30 ++ wsX00)
def wsX3_draftOf : List Cond := .code yX3_draftOf cX3_draftOf 4 none :: ([.fieldLink RX3 63 "RecordLabels" "draft" "[I", .instanceMethod yX2_hasRecord, .initialized RX2, .selects RX2 yX2_hasRecord yX2_hasRecord, .code yX2_hasRecord cX2_hasRecord 2 (some .boolean), .fieldLink RX2 9 "RecordLabels$Table" "size" "I"] ++ wsX20 ++ wsX30)
def wsX3_back_r1 : List Cond := [Cond.methodLink RX3 158 yX3_tableNumbered, Cond.instanceMethod yX3_tableNumbered, Cond.selects RX3 yX3_tableNumbered yX3_tableNumbered, Cond.initialized RX3, Cond.code yX3_tableNumbered cX3_tableNumbered 2 (some (.object "RecordLabels$Table")), Cond.fieldLink RX3 45 "RecordLabels" "nodeTable" "LRecordLabels$Table;", Cond.fieldLink RX3 49 "RecordLabels" "arcTable" "LRecordLabels$Table;", Cond.instanceMethod yX2_hasRecord, Cond.initialized RX2, Cond.selects RX2 yX2_hasRecord yX2_hasRecord, Cond.code yX2_hasRecord cX2_hasRecord 2 (some .boolean), Cond.fieldLink RX2 9 "RecordLabels$Table" "size" "I", Cond.methodLink RX3 188 yX3_draftOf, Cond.instanceMethod yX3_draftOf, Cond.selects RX3 yX3_draftOf yX3_draftOf, Cond.code yX3_draftOf cX3_draftOf 4 none, Cond.fieldLink RX3 63 "RecordLabels" "draft" "[I", Cond.methodLink RX3 167 yX3_putTogether, Cond.instanceMethod yX3_putTogether, Cond.selects RX3 yX3_putTogether yX3_putTogether, Cond.code yX3_putTogether cX3_putTogether 4 (some .int), Cond.fieldLink RX3 60 "RecordLabels" "wrongRecords" "I", Cond.fieldLink RX3 67 "RecordLabels" "parts" "[I", Cond.fieldLink RX3 70 "RecordLabels" "partsTable" "LRecordLabels$Table;"]
def wsX3_back_r2 : List Cond := [Cond.methodLink RX3 193 yX3_wrongItem, Cond.instanceMethod yX3_wrongItem, Cond.selects RX3 yX3_wrongItem yX3_wrongItem, Cond.code yX3_wrongItem cX3_wrongItem 3 (some .int), Cond.methodLink RX3 236 yX3_highestOf, Cond.instanceMethod yX3_highestOf, Cond.selects RX3 yX3_highestOf yX3_highestOf, Cond.code yX3_highestOf cX3_highestOf 4 (some .int), Cond.constant RX3 240 (1000000), Cond.methodLink RX3 232 yX3_kindOfItem, Cond.instanceMethod yX3_kindOfItem, Cond.selects RX3 yX3_kindOfItem yX3_kindOfItem, Cond.code yX3_kindOfItem cX3_kindOfItem 3 (some (.object "RecordLabels$Kind")), Cond.fieldLink RX3 31 "RecordLabels" "signKind" "LRecordLabels$Kind;", Cond.methodLink RX3 196 yX3_isFromTo, Cond.static yX3_isFromTo, Cond.code yX3_isFromTo cX3_isFromTo 3 (some .boolean)]
def wsX3_back : List Cond := .code yX3_back cX3_back 4 (some .int) :: ((wsX3_back_r1 ++ wsX3_back_r2) ++ wsX30 ++ wsX20 ++ wsX00)
def wsX3_part_r1 : List Cond := [Cond.fieldLink RX3 70 "RecordLabels" "partsTable" "LRecordLabels$Table;", Cond.fieldLink RX3 67 "RecordLabels" "parts" "[I", Cond.instanceMethod yX2_hasItem, Cond.initialized RX2, Cond.selects RX2 yX2_hasItem yX2_hasItem, Cond.code yX2_hasItem cX2_hasItem 2 (some .boolean), Cond.fieldLink RX2 19 "RecordLabels$Table" "items" "I", Cond.methodLink RX3 185 yX3_fromCell, Cond.instanceMethod yX3_fromCell, Cond.selects RX3 yX3_fromCell yX3_fromCell, Cond.initialized RX3, Cond.code yX3_fromCell cX3_fromCell 5 (some .int), Cond.methodLink RX3 232 yX3_kindOfItem, Cond.instanceMethod yX3_kindOfItem, Cond.selects RX3 yX3_kindOfItem yX3_kindOfItem, Cond.code yX3_kindOfItem cX3_kindOfItem 3 (some (.object "RecordLabels$Kind")), Cond.fieldLink RX3 45 "RecordLabels" "nodeTable" "LRecordLabels$Table;", Cond.fieldLink RX3 31 "RecordLabels" "signKind" "LRecordLabels$Kind;", Cond.instanceMethod yX0_codeOf, Cond.initialized RX0, Cond.selects RX0 yX0_codeOf yX0_codeOf, Cond.code yX0_codeOf cX0_codeOf 2 (some .int), Cond.fieldLink RX0 33 "RecordLabels$Kind" "codes" "[I", Cond.methodLink RX0 36 yX0_has]
def wsX3_part_r2 : List Cond := [Cond.instanceMethod yX0_has, Cond.selects RX0 yX0_has yX0_has, Cond.code yX0_has cX0_has 2 (some .boolean), Cond.fieldLink RX0 26 "RecordLabels$Kind" "size" "I"]
def wsX3_part : List Cond := .code yX3_part cX3_part 2 (some .int) :: ((wsX3_part_r1 ++ wsX3_part_r2) ++ wsX30 ++ wsX20 ++ wsX00)
def wsX3_keepFound : List Cond := .code yX3_keepFound cX3_keepFound 2 none :: ([.fieldLink RX3 76 "RecordLabels" "foundSize" "I", .fieldLink RX3 73 "RecordLabels" "foundRecords" "[I"] ++ wsX30)
def wsX3_filter_r1 : List Cond := [Cond.fieldLink RX3 76 "RecordLabels" "foundSize" "I", Cond.fieldLink RX3 63 "RecordLabels" "draft" "[I", Cond.methodLink RX3 158 yX3_tableNumbered, Cond.instanceMethod yX3_tableNumbered, Cond.selects RX3 yX3_tableNumbered yX3_tableNumbered, Cond.initialized RX3, Cond.code yX3_tableNumbered cX3_tableNumbered 2 (some (.object "RecordLabels$Table")), Cond.fieldLink RX3 45 "RecordLabels" "nodeTable" "LRecordLabels$Table;", Cond.fieldLink RX3 49 "RecordLabels" "arcTable" "LRecordLabels$Table;", Cond.methodLink RX3 128 yX3_setNumbered, Cond.instanceMethod yX3_setNumbered, Cond.selects RX3 yX3_setNumbered yX3_setNumbered, Cond.code yX3_setNumbered cX3_setNumbered 2 (some (.object "RecordLabels$LabelSet")), Cond.fieldLink RX3 36 "RecordLabels" "sets" "[LRecordLabels$LabelSet;", Cond.instanceMethod yX2_hasItem, Cond.initialized RX2, Cond.selects RX2 yX2_hasItem yX2_hasItem, Cond.code yX2_hasItem cX2_hasItem 2 (some .boolean), Cond.fieldLink RX2 19 "RecordLabels$Table" "items" "I", Cond.methodLink RX3 188 yX3_draftOf, Cond.instanceMethod yX3_draftOf, Cond.selects RX3 yX3_draftOf yX3_draftOf, Cond.code yX3_draftOf cX3_draftOf 4 none, Cond.instanceMethod yX2_hasRecord]
def wsX3_filter_r2 : List Cond := [Cond.selects RX2 yX2_hasRecord yX2_hasRecord, Cond.code yX2_hasRecord cX2_hasRecord 2 (some .boolean), Cond.fieldLink RX2 9 "RecordLabels$Table" "size" "I", Cond.methodLink RX3 185 yX3_fromCell, Cond.instanceMethod yX3_fromCell, Cond.selects RX3 yX3_fromCell yX3_fromCell, Cond.code yX3_fromCell cX3_fromCell 5 (some .int), Cond.methodLink RX3 232 yX3_kindOfItem, Cond.instanceMethod yX3_kindOfItem, Cond.selects RX3 yX3_kindOfItem yX3_kindOfItem, Cond.code yX3_kindOfItem cX3_kindOfItem 3 (some (.object "RecordLabels$Kind")), Cond.fieldLink RX3 31 "RecordLabels" "signKind" "LRecordLabels$Kind;", Cond.instanceMethod yX0_codeOf, Cond.initialized RX0, Cond.selects RX0 yX0_codeOf yX0_codeOf, Cond.code yX0_codeOf cX0_codeOf 2 (some .int), Cond.fieldLink RX0 33 "RecordLabels$Kind" "codes" "[I", Cond.methodLink RX0 36 yX0_has, Cond.instanceMethod yX0_has, Cond.selects RX0 yX0_has yX0_has, Cond.code yX0_has cX0_has 2 (some .boolean), Cond.fieldLink RX0 26 "RecordLabels$Kind" "size" "I", Cond.methodLink RX3 193 yX3_wrongItem, Cond.instanceMethod yX3_wrongItem]
def wsX3_filter_r3 : List Cond := [Cond.selects RX3 yX3_wrongItem yX3_wrongItem, Cond.code yX3_wrongItem cX3_wrongItem 3 (some .int), Cond.methodLink RX3 236 yX3_highestOf, Cond.instanceMethod yX3_highestOf, Cond.selects RX3 yX3_highestOf yX3_highestOf, Cond.code yX3_highestOf cX3_highestOf 4 (some .int), Cond.constant RX3 240 (1000000), Cond.methodLink RX3 196 yX3_isFromTo, Cond.static yX3_isFromTo, Cond.code yX3_isFromTo cX3_isFromTo 3 (some .boolean), Cond.instanceMethod yX1_holds, Cond.initialized RX1, Cond.selects RX1 yX1_holds yX1_holds, Cond.code yX1_holds cX1_holds 2 (some .boolean), Cond.fieldLink RX1 13 "RecordLabels$LabelSet" "kind" "LRecordLabels$Kind;", Cond.fieldLink RX1 7 "RecordLabels$LabelSet" "members" "I", Cond.methodLink RX3 200 yX3_keepFound, Cond.instanceMethod yX3_keepFound, Cond.selects RX3 yX3_keepFound yX3_keepFound, Cond.code yX3_keepFound cX3_keepFound 2 none, Cond.fieldLink RX3 73 "RecordLabels" "foundRecords" "[I"]
def wsX3_filter : List Cond := .code yX3_filter cX3_filter 10 (some .int) :: ((wsX3_filter_r1 ++ (wsX3_filter_r2 ++ wsX3_filter_r3)) ++ wsX10 ++ wsX20 ++ wsX30 ++ wsX00)
def wsX3_found : List Cond := .code yX3_found cX3_found 2 (some .int) :: ([.fieldLink RX3 76 "RecordLabels" "foundSize" "I", .fieldLink RX3 73 "RecordLabels" "foundRecords" "[I"] ++ wsX30)
def wsX3_sum_r1 : List Cond := [Cond.constantLong RX3 204 (-1), Cond.fieldLink RX3 63 "RecordLabels" "draft" "[I", Cond.methodLink RX3 158 yX3_tableNumbered, Cond.instanceMethod yX3_tableNumbered, Cond.selects RX3 yX3_tableNumbered yX3_tableNumbered, Cond.initialized RX3, Cond.code yX3_tableNumbered cX3_tableNumbered 2 (some (.object "RecordLabels$Table")), Cond.fieldLink RX3 45 "RecordLabels" "nodeTable" "LRecordLabels$Table;", Cond.fieldLink RX3 49 "RecordLabels" "arcTable" "LRecordLabels$Table;", Cond.methodLink RX3 188 yX3_draftOf, Cond.instanceMethod yX3_draftOf, Cond.selects RX3 yX3_draftOf yX3_draftOf, Cond.code yX3_draftOf cX3_draftOf 4 none, Cond.instanceMethod yX2_hasRecord, Cond.initialized RX2, Cond.selects RX2 yX2_hasRecord yX2_hasRecord, Cond.code yX2_hasRecord cX2_hasRecord 2 (some .boolean), Cond.fieldLink RX2 9 "RecordLabels$Table" "size" "I", Cond.methodLink RX3 193 yX3_wrongItem, Cond.instanceMethod yX3_wrongItem, Cond.selects RX3 yX3_wrongItem yX3_wrongItem, Cond.code yX3_wrongItem cX3_wrongItem 3 (some .int), Cond.methodLink RX3 236 yX3_highestOf, Cond.instanceMethod yX3_highestOf]
def wsX3_sum_r2 : List Cond := [Cond.selects RX3 yX3_highestOf yX3_highestOf, Cond.code yX3_highestOf cX3_highestOf 4 (some .int), Cond.constant RX3 240 (1000000), Cond.methodLink RX3 232 yX3_kindOfItem, Cond.instanceMethod yX3_kindOfItem, Cond.selects RX3 yX3_kindOfItem yX3_kindOfItem, Cond.code yX3_kindOfItem cX3_kindOfItem 3 (some (.object "RecordLabels$Kind")), Cond.fieldLink RX3 31 "RecordLabels" "signKind" "LRecordLabels$Kind;", Cond.methodLink RX3 196 yX3_isFromTo, Cond.static yX3_isFromTo, Cond.code yX3_isFromTo cX3_isFromTo 3 (some .boolean), Cond.methodLink RX3 109 yX3_askRule, Cond.instanceMethod yX3_askRule, Cond.selects RX3 yX3_askRule yX3_askRule, Cond.code yX3_askRule cX3_askRule 7 (some .int), Cond.fieldLink RX3 25 "RecordLabels" "arcKind" "LRecordLabels$Kind;", Cond.fieldLink RX3 56 "RecordLabels" "ruleFailures" "I", Cond.instanceMethod yX0_startForRule, Cond.initialized RX0, Cond.selects RX0 yX0_startForRule yX0_startForRule, Cond.code yX0_startForRule cX0_startForRule 1 (some .int), Cond.fieldLink RX0 9 "RecordLabels$Kind" "start" "I", Cond.fieldLink RX0 15 "RecordLabels$Kind" "toldToFail" "Z", Cond.methodLink RX3 212 yX3_arcRuleAnswer]
def wsX3_sum_r3 : List Cond := [Cond.static yX3_arcRuleAnswer, Cond.code yX3_arcRuleAnswer cX3_arcRuleAnswer 3 (some .int), Cond.fieldLink RX3 216 "RecordLabels" "WITHIN_ITEMS" "[J", Cond.methodLink RX3 113 yX3_valueOf, Cond.static yX3_valueOf, Cond.code yX3_valueOf cX3_valueOf 4 (some .long), Cond.methodLink RX3 219 yX3_nodeValue, Cond.static yX3_nodeValue, Cond.code yX3_nodeValue cX3_nodeValue 3 (some .long), Cond.constantLong RX3 226 (2), Cond.constantLong RX3 228 (10), Cond.methodLink RX3 223 yX3_arcValue, Cond.static yX3_arcValue, Cond.code yX3_arcValue cX3_arcValue 3 (some .long), Cond.constantLong RX3 230 (100)]
def wsX3_sum : List Cond := .code yX3_sum cX3_sum 7 (some .long) :: ((wsX3_sum_r1 ++ (wsX3_sum_r2 ++ wsX3_sum_r3)) ++ wsX20 ++ wsX30 ++ wsX00)
def wsX3_count : List Cond := .code yX3_count cX3_count 2 (some .int) :: ([.fieldLink RX3 45 "RecordLabels" "nodeTable" "LRecordLabels$Table;", .fieldLink RX3 49 "RecordLabels" "arcTable" "LRecordLabels$Table;", .fieldLink RX3 56 "RecordLabels" "ruleFailures" "I", .fieldLink RX3 60 "RecordLabels" "wrongRecords" "I"] ++ wsX30 ++ wsX20)
def wsX4_init_r1 : List Cond := [Cond.methodLink RX4 1 objectInit, Cond.instanceMethod objectInit, Cond.code objectInit ⟨#[0xb1]⟩ 1 none, Cond.arrayClass .int, Cond.fieldLink RX4 7 "RecordLabelsModel" "many" "[I", Cond.arrayClass .long, Cond.constantLong RX4 13 (435459026032), Cond.constantLong RX4 15 (1684107122), Cond.constantLong RX4 17 (1853321076), Cond.constantLong RX4 19 (491328530802), Cond.constantLong RX4 21 (1819044200), Cond.constantLong RX4 23 (28532), Cond.constantLong RX4 25 (1836020326), Cond.constantLong RX4 27 (1918985582), Cond.constantLong RX4 29 (1919252079), Cond.constantLong RX4 31 (491327352437), Cond.constantLong RX4 33 (121399003081079), Cond.constantLong RX4 35 (111481940305250), Cond.fieldLink RX4 37 "RecordLabelsModel" "names" "[J", Cond.fieldLink RX4 41 "RecordLabelsModel" "codeOf" "[I", Cond.fieldLink RX4 44 "RecordLabelsModel" "constantOf" "[I", Cond.fieldLink RX4 47 "RecordLabelsModel" "state" "[I", Cond.arrayClass .boolean, Cond.fieldLink RX4 50 "RecordLabelsModel" "fails" "[Z"]
def wsX4_init_r2 : List Cond := [Cond.fieldLink RX4 54 "RecordLabelsModel" "setKind" "[I", Cond.fieldLink RX4 57 "RecordLabelsModel" "held" "[I", Cond.fieldLink RX4 60 "RecordLabelsModel" "records" "[I", Cond.fieldLink RX4 63 "RecordLabelsModel" "cells" "[I", Cond.fieldLink RX4 66 "RecordLabelsModel" "latest" "I", Cond.fieldLink RX4 70 "RecordLabelsModel" "parts" "[I", Cond.fieldLink RX4 73 "RecordLabelsModel" "foundAt" "[I", Cond.fieldLink RX4 76 "RecordLabelsModel" "draft" "[I"]
def wsX4_init : List Cond := .code yX4_init cX4_init 3 none :: ((wsX4_init_r1 ++ wsX4_init_r2) ++ wsX40)
def wsX4_isIn : List Cond := .code yX4_isIn cX4_isIn 3 (some .boolean) :: ([])
def wsX4_isKind : List Cond := .code yX4_isKind cX4_isKind 1 (some .boolean) :: ([.methodLink RX4 79 yX4_isIn, .static yX4_isIn, .initialized RX4, .code yX4_isIn cX4_isIn 3 (some .boolean)])
def wsX4_isSet : List Cond := .code yX4_isSet cX4_isSet 1 (some .boolean) :: ([.methodLink RX4 79 yX4_isIn, .static yX4_isIn, .initialized RX4, .code yX4_isIn cX4_isIn 3 (some .boolean)])
def wsX4_isTable : List Cond := .code yX4_isTable cX4_isTable 1 (some .boolean) :: ([])
def wsX4_isCode : List Cond := .code yX4_isCode cX4_isCode 3 (some .boolean) :: ([.fieldLink RX4 7 "RecordLabelsModel" "many" "[I", .methodLink RX4 79 yX4_isIn, .static yX4_isIn, .initialized RX4, .code yX4_isIn cX4_isIn 3 (some .boolean)] ++ wsX40)
def wsX4_constant : List Cond := .code yX4_constant cX4_constant 3 (some .int) :: ([.fieldLink RX4 44 "RecordLabelsModel" "constantOf" "[I", .methodLink RX4 83 yX4_isCode, .instanceMethod yX4_isCode, .selects RX4 yX4_isCode yX4_isCode, .initialized RX4, .code yX4_isCode cX4_isCode 3 (some .boolean), .fieldLink RX4 7 "RecordLabelsModel" "many" "[I", .methodLink RX4 79 yX4_isIn, .static yX4_isIn, .code yX4_isIn cX4_isIn 3 (some .boolean)] ++ wsX40)
def wsX4_codeNow : List Cond := .code yX4_codeNow cX4_codeNow 3 (some .int) :: ([.fieldLink RX4 41 "RecordLabelsModel" "codeOf" "[I"] ++ wsX40)
def wsX4_nameOf : List Cond := .code yX4_nameOf cX4_nameOf 3 (some .long) :: ([.constantLong RX4 87 (97), .fieldLink RX4 37 "RecordLabelsModel" "names" "[J"] ++ wsX40)
def wsX4_code : List Cond := .code yX4_code cX4_code 5 (some .int) :: ([.fieldLink RX4 7 "RecordLabelsModel" "many" "[I", .fieldLink RX4 41 "RecordLabelsModel" "codeOf" "[I", .methodLink RX4 89 yX4_isKind, .static yX4_isKind, .initialized RX4, .code yX4_isKind cX4_isKind 1 (some .boolean), .methodLink RX4 79 yX4_isIn, .static yX4_isIn, .code yX4_isIn cX4_isIn 3 (some .boolean), .methodLink RX4 93 yX4_nameOf, .instanceMethod yX4_nameOf, .selects RX4 yX4_nameOf yX4_nameOf, .code yX4_nameOf cX4_nameOf 3 (some .long), .constantLong RX4 87 (97), .fieldLink RX4 37 "RecordLabelsModel" "names" "[J"] ++ wsX40)
def wsX4_name : List Cond := .code yX4_name cX4_name 3 (some .long) :: ([.methodLink RX4 89 yX4_isKind, .static yX4_isKind, .initialized RX4, .code yX4_isKind cX4_isKind 1 (some .boolean), .methodLink RX4 79 yX4_isIn, .static yX4_isIn, .code yX4_isIn cX4_isIn 3 (some .boolean), .methodLink RX4 83 yX4_isCode, .instanceMethod yX4_isCode, .selects RX4 yX4_isCode yX4_isCode, .code yX4_isCode cX4_isCode 3 (some .boolean), .fieldLink RX4 7 "RecordLabelsModel" "many" "[I", .methodLink RX4 97 yX4_constant, .instanceMethod yX4_constant, .selects RX4 yX4_constant yX4_constant, .code yX4_constant cX4_constant 3 (some .int), .fieldLink RX4 44 "RecordLabelsModel" "constantOf" "[I", .methodLink RX4 93 yX4_nameOf, .instanceMethod yX4_nameOf, .selects RX4 yX4_nameOf yX4_nameOf, .code yX4_nameOf cX4_nameOf 3 (some .long), .constantLong RX4 87 (97), .fieldLink RX4 37 "RecordLabelsModel" "names" "[J"] ++ wsX40)
def wsX4_swap : List Cond := .code yX4_swap cX4_swap 6 (some .int) :: ([.fieldLink RX4 41 "RecordLabelsModel" "codeOf" "[I", .fieldLink RX4 44 "RecordLabelsModel" "constantOf" "[I", .methodLink RX4 89 yX4_isKind, .static yX4_isKind, .initialized RX4, .code yX4_isKind cX4_isKind 1 (some .boolean), .methodLink RX4 79 yX4_isIn, .static yX4_isIn, .code yX4_isIn cX4_isIn 3 (some .boolean), .methodLink RX4 83 yX4_isCode, .instanceMethod yX4_isCode, .selects RX4 yX4_isCode yX4_isCode, .code yX4_isCode cX4_isCode 3 (some .boolean), .fieldLink RX4 7 "RecordLabelsModel" "many" "[I", .methodLink RX4 97 yX4_constant, .instanceMethod yX4_constant, .selects RX4 yX4_constant yX4_constant, .code yX4_constant cX4_constant 3 (some .int)] ++ wsX40)
def wsX4_begin : List Cond := .code yX4_begin cX4_begin 2 (some .int) :: ([.fieldLink RX4 47 "RecordLabelsModel" "state" "[I", .fieldLink RX4 50 "RecordLabelsModel" "fails" "[Z"] ++ wsX40)
def wsX4_lost : List Cond := .code yX4_lost cX4_lost 2 (some .int) :: ([.fieldLink RX4 117 "RecordLabelsModel" "failures" "I"] ++ wsX40)
def wsX4_works : List Cond := .code yX4_works cX4_works 6 (some .int) :: ([.fieldLink RX4 101 "RecordLabelsModel" "came" "J", .constantLong RX4 105 (2), .constantLong RX4 107 (10), .constantLong RX4 113 (100), .constantLong RX4 115 (5), .methodLink RX4 109 yX4_lost, .instanceMethod yX4_lost, .selects RX4 yX4_lost yX4_lost, .initialized RX4, .code yX4_lost cX4_lost 2 (some .int), .fieldLink RX4 117 "RecordLabelsModel" "failures" "I"] ++ wsX40)
def wsX4_rule_r1 : List Cond := [Cond.fieldLink RX4 101 "RecordLabelsModel" "came" "J", Cond.fieldLink RX4 127 "RecordLabelsModel" "result" "J", Cond.methodLink RX4 89 yX4_isKind, Cond.static yX4_isKind, Cond.initialized RX4, Cond.code yX4_isKind cX4_isKind 1 (some .boolean), Cond.methodLink RX4 79 yX4_isIn, Cond.static yX4_isIn, Cond.code yX4_isIn cX4_isIn 3 (some .boolean), Cond.methodLink RX4 83 yX4_isCode, Cond.instanceMethod yX4_isCode, Cond.selects RX4 yX4_isCode yX4_isCode, Cond.code yX4_isCode cX4_isCode 3 (some .boolean), Cond.fieldLink RX4 7 "RecordLabelsModel" "many" "[I", Cond.methodLink RX4 120 yX4_begin, Cond.instanceMethod yX4_begin, Cond.selects RX4 yX4_begin yX4_begin, Cond.code yX4_begin cX4_begin 2 (some .int), Cond.fieldLink RX4 47 "RecordLabelsModel" "state" "[I", Cond.fieldLink RX4 50 "RecordLabelsModel" "fails" "[Z", Cond.methodLink RX4 97 yX4_constant, Cond.instanceMethod yX4_constant, Cond.selects RX4 yX4_constant yX4_constant, Cond.code yX4_constant cX4_constant 3 (some .int)]
def wsX4_rule_r2 : List Cond := [Cond.fieldLink RX4 44 "RecordLabelsModel" "constantOf" "[I", Cond.methodLink RX4 123 yX4_works, Cond.instanceMethod yX4_works, Cond.selects RX4 yX4_works yX4_works, Cond.code yX4_works cX4_works 6 (some .int), Cond.constantLong RX4 105 (2), Cond.constantLong RX4 107 (10), Cond.constantLong RX4 113 (100), Cond.constantLong RX4 115 (5), Cond.methodLink RX4 109 yX4_lost, Cond.instanceMethod yX4_lost, Cond.selects RX4 yX4_lost yX4_lost, Cond.code yX4_lost cX4_lost 2 (some .int), Cond.fieldLink RX4 117 "RecordLabelsModel" "failures" "I"]
def wsX4_rule : List Cond := .code yX4_rule cX4_rule 7 (some .int) :: ((wsX4_rule_r1 ++ wsX4_rule_r2) ++ wsX40)
def wsX4_result : List Cond := .code yX4_result cX4_result 1 (some .long) :: ([.fieldLink RX4 127 "RecordLabelsModel" "result" "J"] ++ wsX40)
def wsX4_fail : List Cond := .code yX4_fail cX4_fail 4 (some .int) :: ([.fieldLink RX4 47 "RecordLabelsModel" "state" "[I", .fieldLink RX4 50 "RecordLabelsModel" "fails" "[Z", .methodLink RX4 89 yX4_isKind, .static yX4_isKind, .initialized RX4, .code yX4_isKind cX4_isKind 1 (some .boolean), .methodLink RX4 79 yX4_isIn, .static yX4_isIn, .code yX4_isIn cX4_isIn 3 (some .boolean)] ++ wsX40)
def wsX4_started : List Cond := .code yX4_started cX4_started 2 (some .int) :: ([.fieldLink RX4 47 "RecordLabelsModel" "state" "[I", .methodLink RX4 89 yX4_isKind, .static yX4_isKind, .initialized RX4, .code yX4_isKind cX4_isKind 1 (some .boolean), .methodLink RX4 79 yX4_isIn, .static yX4_isIn, .code yX4_isIn cX4_isIn 3 (some .boolean)] ++ wsX40)
def wsX4_size : List Cond := .code yX4_size cX4_size 3 (some .int) :: ([])
def wsX4_clear : List Cond := .code yX4_clear cX4_clear 4 (some .int) :: ([.fieldLink RX4 57 "RecordLabelsModel" "held" "[I", .fieldLink RX4 54 "RecordLabelsModel" "setKind" "[I", .methodLink RX4 130 yX4_isSet, .static yX4_isSet, .initialized RX4, .code yX4_isSet cX4_isSet 1 (some .boolean), .methodLink RX4 79 yX4_isIn, .static yX4_isIn, .code yX4_isIn cX4_isIn 3 (some .boolean), .methodLink RX4 89 yX4_isKind, .static yX4_isKind, .code yX4_isKind cX4_isKind 1 (some .boolean), .methodLink RX4 133 yX4_size, .static yX4_size, .code yX4_size cX4_size 3 (some .int)] ++ wsX40)
def wsX4_put : List Cond := .code yX4_put cX4_put 6 (some .int) :: ([.fieldLink RX4 54 "RecordLabelsModel" "setKind" "[I", .fieldLink RX4 57 "RecordLabelsModel" "held" "[I", .methodLink RX4 130 yX4_isSet, .static yX4_isSet, .initialized RX4, .code yX4_isSet cX4_isSet 1 (some .boolean), .methodLink RX4 79 yX4_isIn, .static yX4_isIn, .code yX4_isIn cX4_isIn 3 (some .boolean), .methodLink RX4 83 yX4_isCode, .instanceMethod yX4_isCode, .selects RX4 yX4_isCode yX4_isCode, .code yX4_isCode cX4_isCode 3 (some .boolean), .fieldLink RX4 7 "RecordLabelsModel" "many" "[I", .methodLink RX4 97 yX4_constant, .instanceMethod yX4_constant, .selects RX4 yX4_constant yX4_constant, .code yX4_constant cX4_constant 3 (some .int), .fieldLink RX4 44 "RecordLabelsModel" "constantOf" "[I"] ++ wsX40)
def wsX4_join : List Cond := .code yX4_join cX4_join 7 (some .int) :: ([.fieldLink RX4 54 "RecordLabelsModel" "setKind" "[I", .fieldLink RX4 7 "RecordLabelsModel" "many" "[I", .fieldLink RX4 57 "RecordLabelsModel" "held" "[I", .methodLink RX4 79 yX4_isIn, .static yX4_isIn, .initialized RX4, .code yX4_isIn cX4_isIn 3 (some .boolean), .methodLink RX4 130 yX4_isSet, .static yX4_isSet, .code yX4_isSet cX4_isSet 1 (some .boolean), .methodLink RX4 133 yX4_size, .static yX4_size, .code yX4_size cX4_size 3 (some .int)] ++ wsX40)
def wsX4_member : List Cond := .code yX4_member cX4_member 5 (some .int) :: ([.fieldLink RX4 7 "RecordLabelsModel" "many" "[I", .fieldLink RX4 54 "RecordLabelsModel" "setKind" "[I", .fieldLink RX4 57 "RecordLabelsModel" "held" "[I", .methodLink RX4 130 yX4_isSet, .static yX4_isSet, .initialized RX4, .code yX4_isSet cX4_isSet 1 (some .boolean), .methodLink RX4 79 yX4_isIn, .static yX4_isIn, .code yX4_isIn cX4_isIn 3 (some .boolean), .methodLink RX4 97 yX4_constant, .instanceMethod yX4_constant, .selects RX4 yX4_constant yX4_constant, .code yX4_constant cX4_constant 3 (some .int), .fieldLink RX4 44 "RecordLabelsModel" "constantOf" "[I", .methodLink RX4 83 yX4_isCode, .instanceMethod yX4_isCode, .selects RX4 yX4_isCode yX4_isCode, .code yX4_isCode cX4_isCode 3 (some .boolean)] ++ wsX40)
def wsX4_about : List Cond := .code yX4_about cX4_about 3 (some .int) :: ([.fieldLink RX4 57 "RecordLabelsModel" "held" "[I", .fieldLink RX4 54 "RecordLabelsModel" "setKind" "[I", .methodLink RX4 130 yX4_isSet, .static yX4_isSet, .initialized RX4, .code yX4_isSet cX4_isSet 1 (some .boolean), .methodLink RX4 79 yX4_isIn, .static yX4_isIn, .code yX4_isIn cX4_isIn 3 (some .boolean), .methodLink RX4 133 yX4_size, .static yX4_size, .code yX4_size cX4_size 3 (some .int)] ++ wsX40)
def wsX4_items : List Cond := .code yX4_items cX4_items 1 (some .int) :: ([])
def wsX4_kindOf : List Cond := .code yX4_kindOf cX4_kindOf 2 (some .int) :: ([])
def wsX4_wrong : List Cond := .code yX4_wrong cX4_wrong 5 (some .int) :: ([.fieldLink RX4 60 "RecordLabelsModel" "records" "[I", .constant RX4 136 (1000000), .methodLink RX4 79 yX4_isIn, .static yX4_isIn, .initialized RX4, .code yX4_isIn cX4_isIn 3 (some .boolean)] ++ wsX40)
def wsX4_take : List Cond := .code yX4_take cX4_take 5 none :: ([.fieldLink RX4 66 "RecordLabelsModel" "latest" "I", .fieldLink RX4 70 "RecordLabelsModel" "parts" "[I"] ++ wsX40)
def wsX4_record_r1 : List Cond := [Cond.fieldLink RX4 60 "RecordLabelsModel" "records" "[I", Cond.fieldLink RX4 76 "RecordLabelsModel" "draft" "[I", Cond.fieldLink RX4 144 "RecordLabelsModel" "wrongs" "I", Cond.fieldLink RX4 63 "RecordLabelsModel" "cells" "[I", Cond.methodLink RX4 137 yX4_isTable, Cond.static yX4_isTable, Cond.initialized RX4, Cond.code yX4_isTable cX4_isTable 1 (some .boolean), Cond.methodLink RX4 97 yX4_constant, Cond.instanceMethod yX4_constant, Cond.selects RX4 yX4_constant yX4_constant, Cond.code yX4_constant cX4_constant 3 (some .int), Cond.fieldLink RX4 44 "RecordLabelsModel" "constantOf" "[I", Cond.methodLink RX4 83 yX4_isCode, Cond.instanceMethod yX4_isCode, Cond.selects RX4 yX4_isCode yX4_isCode, Cond.code yX4_isCode cX4_isCode 3 (some .boolean), Cond.fieldLink RX4 7 "RecordLabelsModel" "many" "[I", Cond.methodLink RX4 79 yX4_isIn, Cond.static yX4_isIn, Cond.code yX4_isIn cX4_isIn 3 (some .boolean), Cond.methodLink RX4 140 yX4_wrong, Cond.instanceMethod yX4_wrong, Cond.selects RX4 yX4_wrong yX4_wrong]
def wsX4_record_r2 : List Cond := [Cond.code yX4_wrong cX4_wrong 5 (some .int), Cond.constant RX4 136 (1000000), Cond.methodLink RX4 147 yX4_take, Cond.instanceMethod yX4_take, Cond.selects RX4 yX4_take yX4_take, Cond.code yX4_take cX4_take 5 none, Cond.fieldLink RX4 66 "RecordLabelsModel" "latest" "I", Cond.fieldLink RX4 70 "RecordLabelsModel" "parts" "[I"]
def wsX4_record : List Cond := .code yX4_record cX4_record 9 (some .int) :: ((wsX4_record_r1 ++ wsX4_record_r2) ++ wsX40)
def wsX4_isCell : List Cond := .code yX4_isCell cX4_isCell 4 (some .boolean) :: ([.fieldLink RX4 60 "RecordLabelsModel" "records" "[I", .methodLink RX4 137 yX4_isTable, .static yX4_isTable, .initialized RX4, .code yX4_isTable cX4_isTable 1 (some .boolean), .methodLink RX4 79 yX4_isIn, .static yX4_isIn, .code yX4_isIn cX4_isIn 3 (some .boolean), .methodLink RX4 151 yX4_items, .static yX4_items, .code yX4_items cX4_items 1 (some .int)] ++ wsX40)
def wsX4_lay_r1 : List Cond := [Cond.fieldLink RX4 63 "RecordLabelsModel" "cells" "[I", Cond.methodLink RX4 154 yX4_isCell, Cond.instanceMethod yX4_isCell, Cond.selects RX4 yX4_isCell yX4_isCell, Cond.initialized RX4, Cond.code yX4_isCell cX4_isCell 4 (some .boolean), Cond.fieldLink RX4 60 "RecordLabelsModel" "records" "[I", Cond.methodLink RX4 137 yX4_isTable, Cond.static yX4_isTable, Cond.code yX4_isTable cX4_isTable 1 (some .boolean), Cond.methodLink RX4 79 yX4_isIn, Cond.static yX4_isIn, Cond.code yX4_isIn cX4_isIn 3 (some .boolean), Cond.methodLink RX4 151 yX4_items, Cond.static yX4_items, Cond.code yX4_items cX4_items 1 (some .int), Cond.methodLink RX4 157 yX4_kindOf, Cond.static yX4_kindOf, Cond.code yX4_kindOf cX4_kindOf 2 (some .int), Cond.methodLink RX4 97 yX4_constant, Cond.instanceMethod yX4_constant, Cond.selects RX4 yX4_constant yX4_constant, Cond.code yX4_constant cX4_constant 3 (some .int), Cond.fieldLink RX4 44 "RecordLabelsModel" "constantOf" "[I"]
def wsX4_lay_r2 : List Cond := [Cond.methodLink RX4 83 yX4_isCode, Cond.instanceMethod yX4_isCode, Cond.selects RX4 yX4_isCode yX4_isCode, Cond.code yX4_isCode cX4_isCode 3 (some .boolean), Cond.fieldLink RX4 7 "RecordLabelsModel" "many" "[I"]
def wsX4_lay : List Cond := .code yX4_lay cX4_lay 6 (some .int) :: ((wsX4_lay_r1 ++ wsX4_lay_r2) ++ wsX40)
def wsX4_toldOf : List Cond := .code yX4_toldOf cX4_toldOf 5 (some .int) :: ([.methodLink RX4 157 yX4_kindOf, .static yX4_kindOf, .initialized RX4, .code yX4_kindOf cX4_kindOf 2 (some .int), .methodLink RX4 160 yX4_codeNow, .instanceMethod yX4_codeNow, .selects RX4 yX4_codeNow yX4_codeNow, .code yX4_codeNow cX4_codeNow 3 (some .int), .fieldLink RX4 41 "RecordLabelsModel" "codeOf" "[I"] ++ wsX40)
def wsX4_cell_r1 : List Cond := [Cond.fieldLink RX4 63 "RecordLabelsModel" "cells" "[I", Cond.constant RX4 167 (-2000000000), Cond.methodLink RX4 154 yX4_isCell, Cond.instanceMethod yX4_isCell, Cond.selects RX4 yX4_isCell yX4_isCell, Cond.initialized RX4, Cond.code yX4_isCell cX4_isCell 4 (some .boolean), Cond.fieldLink RX4 60 "RecordLabelsModel" "records" "[I", Cond.methodLink RX4 137 yX4_isTable, Cond.static yX4_isTable, Cond.code yX4_isTable cX4_isTable 1 (some .boolean), Cond.methodLink RX4 79 yX4_isIn, Cond.static yX4_isIn, Cond.code yX4_isIn cX4_isIn 3 (some .boolean), Cond.methodLink RX4 151 yX4_items, Cond.static yX4_items, Cond.code yX4_items cX4_items 1 (some .int), Cond.methodLink RX4 163 yX4_toldOf, Cond.instanceMethod yX4_toldOf, Cond.selects RX4 yX4_toldOf yX4_toldOf, Cond.code yX4_toldOf cX4_toldOf 5 (some .int), Cond.methodLink RX4 157 yX4_kindOf, Cond.static yX4_kindOf, Cond.code yX4_kindOf cX4_kindOf 2 (some .int)]
def wsX4_cell_r2 : List Cond := [Cond.methodLink RX4 160 yX4_codeNow, Cond.instanceMethod yX4_codeNow, Cond.selects RX4 yX4_codeNow yX4_codeNow, Cond.code yX4_codeNow cX4_codeNow 3 (some .int), Cond.fieldLink RX4 41 "RecordLabelsModel" "codeOf" "[I"]
def wsX4_cell : List Cond := .code yX4_cell cX4_cell 4 (some .int) :: ((wsX4_cell_r1 ++ wsX4_cell_r2) ++ wsX40)
def wsX4_back_r1 : List Cond := [Cond.fieldLink RX4 63 "RecordLabelsModel" "cells" "[I", Cond.fieldLink RX4 144 "RecordLabelsModel" "wrongs" "I", Cond.methodLink RX4 154 yX4_isCell, Cond.instanceMethod yX4_isCell, Cond.selects RX4 yX4_isCell yX4_isCell, Cond.initialized RX4, Cond.code yX4_isCell cX4_isCell 4 (some .boolean), Cond.fieldLink RX4 60 "RecordLabelsModel" "records" "[I", Cond.methodLink RX4 137 yX4_isTable, Cond.static yX4_isTable, Cond.code yX4_isTable cX4_isTable 1 (some .boolean), Cond.methodLink RX4 79 yX4_isIn, Cond.static yX4_isIn, Cond.code yX4_isIn cX4_isIn 3 (some .boolean), Cond.methodLink RX4 151 yX4_items, Cond.static yX4_items, Cond.code yX4_items cX4_items 1 (some .int), Cond.methodLink RX4 140 yX4_wrong, Cond.instanceMethod yX4_wrong, Cond.selects RX4 yX4_wrong yX4_wrong, Cond.code yX4_wrong cX4_wrong 5 (some .int), Cond.constant RX4 136 (1000000), Cond.methodLink RX4 147 yX4_take, Cond.instanceMethod yX4_take]
def wsX4_back_r2 : List Cond := [Cond.selects RX4 yX4_take yX4_take, Cond.code yX4_take cX4_take 5 none, Cond.fieldLink RX4 66 "RecordLabelsModel" "latest" "I", Cond.fieldLink RX4 70 "RecordLabelsModel" "parts" "[I"]
def wsX4_back : List Cond := .code yX4_back cX4_back 5 (some .int) :: ((wsX4_back_r1 ++ wsX4_back_r2) ++ wsX40)
def wsX4_part : List Cond := .code yX4_part cX4_part 2 (some .int) :: ([.fieldLink RX4 66 "RecordLabelsModel" "latest" "I", .fieldLink RX4 70 "RecordLabelsModel" "parts" "[I", .methodLink RX4 151 yX4_items, .static yX4_items, .initialized RX4, .code yX4_items cX4_items 1 (some .int), .methodLink RX4 79 yX4_isIn, .static yX4_isIn, .code yX4_isIn cX4_isIn 3 (some .boolean), .methodLink RX4 163 yX4_toldOf, .instanceMethod yX4_toldOf, .selects RX4 yX4_toldOf yX4_toldOf, .code yX4_toldOf cX4_toldOf 5 (some .int), .methodLink RX4 157 yX4_kindOf, .static yX4_kindOf, .code yX4_kindOf cX4_kindOf 2 (some .int), .methodLink RX4 160 yX4_codeNow, .instanceMethod yX4_codeNow, .selects RX4 yX4_codeNow yX4_codeNow, .code yX4_codeNow cX4_codeNow 3 (some .int), .fieldLink RX4 41 "RecordLabelsModel" "codeOf" "[I"] ++ wsX40)
def wsX4_filter_r1 : List Cond := [Cond.fieldLink RX4 54 "RecordLabelsModel" "setKind" "[I", Cond.fieldLink RX4 168 "RecordLabelsModel" "finds" "I", Cond.fieldLink RX4 60 "RecordLabelsModel" "records" "[I", Cond.fieldLink RX4 63 "RecordLabelsModel" "cells" "[I", Cond.fieldLink RX4 57 "RecordLabelsModel" "held" "[I", Cond.fieldLink RX4 73 "RecordLabelsModel" "foundAt" "[I", Cond.methodLink RX4 137 yX4_isTable, Cond.static yX4_isTable, Cond.initialized RX4, Cond.code yX4_isTable cX4_isTable 1 (some .boolean), Cond.methodLink RX4 130 yX4_isSet, Cond.static yX4_isSet, Cond.code yX4_isSet cX4_isSet 1 (some .boolean), Cond.methodLink RX4 79 yX4_isIn, Cond.static yX4_isIn, Cond.code yX4_isIn cX4_isIn 3 (some .boolean), Cond.methodLink RX4 151 yX4_items, Cond.static yX4_items, Cond.code yX4_items cX4_items 1 (some .int), Cond.methodLink RX4 140 yX4_wrong, Cond.instanceMethod yX4_wrong, Cond.selects RX4 yX4_wrong yX4_wrong, Cond.code yX4_wrong cX4_wrong 5 (some .int), Cond.constant RX4 136 (1000000)]
def wsX4_filter_r2 : List Cond := [Cond.methodLink RX4 163 yX4_toldOf, Cond.instanceMethod yX4_toldOf, Cond.selects RX4 yX4_toldOf yX4_toldOf, Cond.code yX4_toldOf cX4_toldOf 5 (some .int), Cond.methodLink RX4 157 yX4_kindOf, Cond.static yX4_kindOf, Cond.code yX4_kindOf cX4_kindOf 2 (some .int), Cond.methodLink RX4 160 yX4_codeNow, Cond.instanceMethod yX4_codeNow, Cond.selects RX4 yX4_codeNow yX4_codeNow, Cond.code yX4_codeNow cX4_codeNow 3 (some .int), Cond.fieldLink RX4 41 "RecordLabelsModel" "codeOf" "[I"]
def wsX4_filter : List Cond := .code yX4_filter cX4_filter 8 (some .int) :: ((wsX4_filter_r1 ++ wsX4_filter_r2) ++ wsX40)
def wsX4_found : List Cond := .code yX4_found cX4_found 2 (some .int) :: ([.fieldLink RX4 168 "RecordLabelsModel" "finds" "I", .fieldLink RX4 73 "RecordLabelsModel" "foundAt" "[I", .methodLink RX4 79 yX4_isIn, .static yX4_isIn, .initialized RX4, .code yX4_isIn cX4_isIn 3 (some .boolean)] ++ wsX40)
def wsX4_sum_r1 : List Cond := [Cond.constantLong RX4 171 (-1), Cond.fieldLink RX4 60 "RecordLabelsModel" "records" "[I", Cond.fieldLink RX4 63 "RecordLabelsModel" "cells" "[I", Cond.fieldLink RX4 101 "RecordLabelsModel" "came" "J", Cond.methodLink RX4 137 yX4_isTable, Cond.static yX4_isTable, Cond.initialized RX4, Cond.code yX4_isTable cX4_isTable 1 (some .boolean), Cond.methodLink RX4 140 yX4_wrong, Cond.instanceMethod yX4_wrong, Cond.selects RX4 yX4_wrong yX4_wrong, Cond.code yX4_wrong cX4_wrong 5 (some .int), Cond.constant RX4 136 (1000000), Cond.methodLink RX4 79 yX4_isIn, Cond.static yX4_isIn, Cond.code yX4_isIn cX4_isIn 3 (some .boolean), Cond.methodLink RX4 120 yX4_begin, Cond.instanceMethod yX4_begin, Cond.selects RX4 yX4_begin yX4_begin, Cond.code yX4_begin cX4_begin 2 (some .int), Cond.fieldLink RX4 47 "RecordLabelsModel" "state" "[I", Cond.fieldLink RX4 50 "RecordLabelsModel" "fails" "[Z", Cond.methodLink RX4 123 yX4_works, Cond.instanceMethod yX4_works]
def wsX4_sum_r2 : List Cond := [Cond.selects RX4 yX4_works yX4_works, Cond.code yX4_works cX4_works 6 (some .int), Cond.constantLong RX4 105 (2), Cond.constantLong RX4 107 (10), Cond.constantLong RX4 113 (100), Cond.constantLong RX4 115 (5), Cond.methodLink RX4 109 yX4_lost, Cond.instanceMethod yX4_lost, Cond.selects RX4 yX4_lost yX4_lost, Cond.code yX4_lost cX4_lost 2 (some .int), Cond.fieldLink RX4 117 "RecordLabelsModel" "failures" "I"]
def wsX4_sum : List Cond := .code yX4_sum cX4_sum 7 (some .long) :: ((wsX4_sum_r1 ++ wsX4_sum_r2) ++ wsX40)
def wsX4_count : List Cond := .code yX4_count cX4_count 2 (some .int) :: ([.fieldLink RX4 60 "RecordLabelsModel" "records" "[I", .fieldLink RX4 117 "RecordLabelsModel" "failures" "I", .fieldLink RX4 144 "RecordLabelsModel" "wrongs" "I"] ++ wsX40)
def wsL_law_r1 : List Cond := [Cond.classLink RL 7 RX3, Cond.instantiable RX3 14, Cond.initialized RX3, Cond.classLink RL 10 RX4, Cond.instantiable RX4 19, Cond.initialized RX4, Cond.constantLong RL 13 (4294967295), Cond.methodLink RL 9 yX3_init, Cond.instanceMethod yX3_init, Cond.code yX3_init cX3_init 2 none, Cond.methodLink RX3 1 objectInit, Cond.instanceMethod objectInit, Cond.code objectInit ⟨#[0xb1]⟩ 1 none, Cond.classLink RX3 7 RX0, Cond.instantiable RX0 7, Cond.initialized RX0, Cond.fieldLink RX3 11 "RecordLabels" "NODE_NAMES" "[J", Cond.fieldLink RX3 18 "RecordLabels" "nodeKind" "LRecordLabels$Kind;", Cond.fieldLink RX3 22 "RecordLabels" "ARC_NAMES" "[J", Cond.fieldLink RX3 25 "RecordLabels" "arcKind" "LRecordLabels$Kind;", Cond.fieldLink RX3 28 "RecordLabels" "SIGN_NAMES" "[J", Cond.fieldLink RX3 31 "RecordLabels" "signKind" "LRecordLabels$Kind;", Cond.classLink RX3 34 RX1, Cond.fieldLink RX3 36 "RecordLabels" "sets" "[LRecordLabels$LabelSet;"]
def wsL_law_r2 : List Cond := [Cond.classLink RX3 40 RX2, Cond.instantiable RX2 5, Cond.initialized RX2, Cond.fieldLink RX3 45 "RecordLabels" "nodeTable" "LRecordLabels$Table;", Cond.fieldLink RX3 49 "RecordLabels" "arcTable" "LRecordLabels$Table;", Cond.fieldLink RX3 52 "RecordLabels" "lastResult" "J", Cond.fieldLink RX3 56 "RecordLabels" "ruleFailures" "I", Cond.fieldLink RX3 60 "RecordLabels" "wrongRecords" "I", Cond.arrayClass .int, Cond.fieldLink RX3 63 "RecordLabels" "draft" "[I", Cond.fieldLink RX3 67 "RecordLabels" "parts" "[I", Cond.fieldLink RX3 70 "RecordLabels" "partsTable" "LRecordLabels$Table;", Cond.fieldLink RX3 73 "RecordLabels" "foundRecords" "[I", Cond.fieldLink RX3 76 "RecordLabels" "foundSize" "I", Cond.instantiable RX1 2, Cond.initialized RX1, Cond.instanceMethod yX0_init, Cond.code yX0_init cX0_init 4 none, Cond.methodLink RX0 3 objectInit, Cond.fieldLink RX0 9 "RecordLabels$Kind" "start" "I", Cond.fieldLink RX0 15 "RecordLabels$Kind" "toldToFail" "Z", Cond.fieldLink RX0 19 "RecordLabels$Kind" "number" "I", Cond.fieldLink RX0 22 "RecordLabels$Kind" "names" "[J", Cond.fieldLink RX0 26 "RecordLabels$Kind" "size" "I"]
def wsL_law_r3 : List Cond := [Cond.fieldLink RX0 29 "RecordLabels$Kind" "constants" "[I", Cond.fieldLink RX0 33 "RecordLabels$Kind" "codes" "[I", Cond.instanceMethod yX2_init, Cond.code yX2_init cX2_init 4 none, Cond.methodLink RX2 3 objectInit, Cond.fieldLink RX2 9 "RecordLabels$Table" "size" "I", Cond.fieldLink RX2 15 "RecordLabels$Table" "kind" "LRecordLabels$Kind;", Cond.fieldLink RX2 19 "RecordLabels$Table" "items" "I", Cond.fieldLink RX2 22 "RecordLabels$Table" "measure" "I", Cond.classLink RX2 25 "[[I", Cond.fieldLink RX2 27 "RecordLabels$Table" "columns" "[[I", Cond.instanceMethod yX1_init, Cond.code yX1_init cX1_init 2 none, Cond.methodLink RX1 1 objectInit, Cond.fieldLink RX1 7 "RecordLabels$LabelSet" "members" "I", Cond.fieldLink RX1 13 "RecordLabels$LabelSet" "kind" "LRecordLabels$Kind;", Cond.methodLink RL 12 yX4_init, Cond.instanceMethod yX4_init, Cond.code yX4_init cX4_init 3 none, Cond.methodLink RX4 1 objectInit, Cond.fieldLink RX4 7 "RecordLabelsModel" "many" "[I", Cond.arrayClass .long, Cond.constantLong RX4 13 (435459026032), Cond.constantLong RX4 15 (1684107122)]
def wsL_law_r4 : List Cond := [Cond.constantLong RX4 17 (1853321076), Cond.constantLong RX4 19 (491328530802), Cond.constantLong RX4 21 (1819044200), Cond.constantLong RX4 23 (28532), Cond.constantLong RX4 25 (1836020326), Cond.constantLong RX4 27 (1918985582), Cond.constantLong RX4 29 (1919252079), Cond.constantLong RX4 31 (491327352437), Cond.constantLong RX4 33 (121399003081079), Cond.constantLong RX4 35 (111481940305250), Cond.fieldLink RX4 37 "RecordLabelsModel" "names" "[J", Cond.fieldLink RX4 41 "RecordLabelsModel" "codeOf" "[I", Cond.fieldLink RX4 44 "RecordLabelsModel" "constantOf" "[I", Cond.fieldLink RX4 47 "RecordLabelsModel" "state" "[I", Cond.arrayClass .boolean, Cond.fieldLink RX4 50 "RecordLabelsModel" "fails" "[Z", Cond.fieldLink RX4 54 "RecordLabelsModel" "setKind" "[I", Cond.fieldLink RX4 57 "RecordLabelsModel" "held" "[I", Cond.fieldLink RX4 60 "RecordLabelsModel" "records" "[I", Cond.fieldLink RX4 63 "RecordLabelsModel" "cells" "[I", Cond.fieldLink RX4 66 "RecordLabelsModel" "latest" "I", Cond.fieldLink RX4 70 "RecordLabelsModel" "parts" "[I", Cond.fieldLink RX4 73 "RecordLabelsModel" "foundAt" "[I", Cond.fieldLink RX4 76 "RecordLabelsModel" "draft" "[I"]
def wsL_law_r5 : List Cond := [Cond.methodLink RL 15 yX3_code, Cond.instanceMethod yX3_code, Cond.selects RX3 yX3_code yX3_code, Cond.code yX3_code cX3_code 6 (some .int), Cond.methodLink RX3 82 yX3_kindNumbered, Cond.instanceMethod yX3_kindNumbered, Cond.selects RX3 yX3_kindNumbered yX3_kindNumbered, Cond.code yX3_kindNumbered cX3_kindNumbered 2 (some (.object "RecordLabels$Kind")), Cond.instanceMethod yX0_constantNamed, Cond.selects RX0 yX0_constantNamed yX0_constantNamed, Cond.code yX0_constantNamed cX0_constantNamed 4 (some .int), Cond.instanceMethod yX0_codeOf, Cond.selects RX0 yX0_codeOf yX0_codeOf, Cond.code yX0_codeOf cX0_codeOf 2 (some .int), Cond.methodLink RX0 36 yX0_has, Cond.instanceMethod yX0_has, Cond.selects RX0 yX0_has yX0_has, Cond.code yX0_has cX0_has 2 (some .boolean), Cond.methodLink RL 19 yX4_code, Cond.instanceMethod yX4_code, Cond.selects RX4 yX4_code yX4_code, Cond.code yX4_code cX4_code 5 (some .int), Cond.methodLink RX4 89 yX4_isKind, Cond.static yX4_isKind]
def wsL_law_r6 : List Cond := [Cond.code yX4_isKind cX4_isKind 1 (some .boolean), Cond.methodLink RX4 79 yX4_isIn, Cond.static yX4_isIn, Cond.code yX4_isIn cX4_isIn 3 (some .boolean), Cond.methodLink RX4 93 yX4_nameOf, Cond.instanceMethod yX4_nameOf, Cond.selects RX4 yX4_nameOf yX4_nameOf, Cond.code yX4_nameOf cX4_nameOf 3 (some .long), Cond.constantLong RX4 87 (97), Cond.methodLink RL 20 yX3_name, Cond.instanceMethod yX3_name, Cond.selects RX3 yX3_name yX3_name, Cond.code yX3_name cX3_name 4 (some .long), Cond.instanceMethod yX0_constantOf, Cond.selects RX0 yX0_constantOf yX0_constantOf, Cond.code yX0_constantOf cX0_constantOf 2 (some .int), Cond.instanceMethod yX0_nameOf, Cond.selects RX0 yX0_nameOf yX0_nameOf, Cond.code yX0_nameOf cX0_nameOf 2 (some .long), Cond.methodLink RL 24 yX4_name, Cond.instanceMethod yX4_name, Cond.selects RX4 yX4_name yX4_name, Cond.code yX4_name cX4_name 3 (some .long), Cond.methodLink RX4 83 yX4_isCode]
def wsL_law_r7 : List Cond := [Cond.instanceMethod yX4_isCode, Cond.selects RX4 yX4_isCode yX4_isCode, Cond.code yX4_isCode cX4_isCode 3 (some .boolean), Cond.methodLink RX4 97 yX4_constant, Cond.instanceMethod yX4_constant, Cond.selects RX4 yX4_constant yX4_constant, Cond.code yX4_constant cX4_constant 3 (some .int), Cond.methodLink RL 25 yX3_swap, Cond.instanceMethod yX3_swap, Cond.selects RX3 yX3_swap yX3_swap, Cond.code yX3_swap cX3_swap 5 (some .int), Cond.instanceMethod yX0_exchange, Cond.selects RX0 yX0_exchange yX0_exchange, Cond.code yX0_exchange cX0_exchange 5 none, Cond.methodLink RX0 40 yX0_constantOf, Cond.methodLink RX0 44 yX0_giveCode, Cond.instanceMethod yX0_giveCode, Cond.selects RX0 yX0_giveCode yX0_giveCode, Cond.code yX0_giveCode cX0_giveCode 3 none, Cond.methodLink RL 29 yX4_swap, Cond.instanceMethod yX4_swap, Cond.selects RX4 yX4_swap yX4_swap, Cond.code yX4_swap cX4_swap 6 (some .int), Cond.methodLink RL 30 yX3_rule]
def wsL_law_r8 : List Cond := [Cond.instanceMethod yX3_rule, Cond.selects RX3 yX3_rule yX3_rule, Cond.code yX3_rule cX3_rule 8 (some .int), Cond.methodLink RX3 109 yX3_askRule, Cond.instanceMethod yX3_askRule, Cond.selects RX3 yX3_askRule yX3_askRule, Cond.code yX3_askRule cX3_askRule 7 (some .int), Cond.instanceMethod yX0_startForRule, Cond.selects RX0 yX0_startForRule yX0_startForRule, Cond.code yX0_startForRule cX0_startForRule 1 (some .int), Cond.methodLink RX3 212 yX3_arcRuleAnswer, Cond.static yX3_arcRuleAnswer, Cond.code yX3_arcRuleAnswer cX3_arcRuleAnswer 3 (some .int), Cond.fieldLink RX3 216 "RecordLabels" "WITHIN_ITEMS" "[J", Cond.methodLink RX3 113 yX3_valueOf, Cond.static yX3_valueOf, Cond.code yX3_valueOf cX3_valueOf 4 (some .long), Cond.methodLink RX3 219 yX3_nodeValue, Cond.static yX3_nodeValue, Cond.code yX3_nodeValue cX3_nodeValue 3 (some .long), Cond.constantLong RX3 226 (2), Cond.constantLong RX3 228 (10), Cond.methodLink RX3 223 yX3_arcValue, Cond.static yX3_arcValue]
def wsL_law_r9 : List Cond := [Cond.code yX3_arcValue cX3_arcValue 3 (some .long), Cond.constantLong RX3 230 (100), Cond.methodLink RL 34 yX4_rule, Cond.instanceMethod yX4_rule, Cond.selects RX4 yX4_rule yX4_rule, Cond.code yX4_rule cX4_rule 7 (some .int), Cond.fieldLink RX4 101 "RecordLabelsModel" "came" "J", Cond.fieldLink RX4 127 "RecordLabelsModel" "result" "J", Cond.methodLink RX4 120 yX4_begin, Cond.instanceMethod yX4_begin, Cond.selects RX4 yX4_begin yX4_begin, Cond.code yX4_begin cX4_begin 2 (some .int), Cond.methodLink RX4 123 yX4_works, Cond.instanceMethod yX4_works, Cond.selects RX4 yX4_works yX4_works, Cond.code yX4_works cX4_works 6 (some .int), Cond.constantLong RX4 105 (2), Cond.constantLong RX4 107 (10), Cond.constantLong RX4 113 (100), Cond.constantLong RX4 115 (5), Cond.methodLink RX4 109 yX4_lost, Cond.instanceMethod yX4_lost, Cond.selects RX4 yX4_lost yX4_lost, Cond.code yX4_lost cX4_lost 2 (some .int)]
def wsL_law_r10 : List Cond := [Cond.fieldLink RX4 117 "RecordLabelsModel" "failures" "I", Cond.methodLink RL 35 yX3_result, Cond.instanceMethod yX3_result, Cond.selects RX3 yX3_result yX3_result, Cond.code yX3_result cX3_result 1 (some .long), Cond.methodLink RL 39 yX4_result, Cond.instanceMethod yX4_result, Cond.selects RX4 yX4_result yX4_result, Cond.code yX4_result cX4_result 1 (some .long), Cond.methodLink RL 40 yX3_fail, Cond.instanceMethod yX3_fail, Cond.selects RX3 yX3_fail yX3_fail, Cond.code yX3_fail cX3_fail 5 (some .int), Cond.methodLink RX3 124 yX3_oneIf, Cond.static yX3_oneIf, Cond.code yX3_oneIf cX3_oneIf 1 (some .int), Cond.methodLink RL 44 yX4_fail, Cond.instanceMethod yX4_fail, Cond.selects RX4 yX4_fail yX4_fail, Cond.code yX4_fail cX4_fail 4 (some .int), Cond.methodLink RL 45 yX3_started, Cond.instanceMethod yX3_started, Cond.selects RX3 yX3_started yX3_started, Cond.code yX3_started cX3_started 3 (some .int)]
def wsL_law_r11 : List Cond := [Cond.methodLink RL 49 yX4_started, Cond.instanceMethod yX4_started, Cond.selects RX4 yX4_started yX4_started, Cond.code yX4_started cX4_started 2 (some .int), Cond.methodLink RL 50 yX3_clear, Cond.instanceMethod yX3_clear, Cond.selects RX3 yX3_clear yX3_clear, Cond.code yX3_clear cX3_clear 6 (some .int), Cond.methodLink RX3 128 yX3_setNumbered, Cond.instanceMethod yX3_setNumbered, Cond.selects RX3 yX3_setNumbered yX3_setNumbered, Cond.code yX3_setNumbered cX3_setNumbered 2 (some (.object "RecordLabels$LabelSet")), Cond.instanceMethod yX1_size, Cond.selects RX1 yX1_size yX1_size, Cond.code yX1_size cX1_size 1 (some .int), Cond.methodLink RX1 17 yJ6_bitCount_0f7a4, Cond.static yJ6_bitCount_0f7a4, Cond.initialized RJ6, Cond.code yJ6_bitCount_0f7a4 cJ6_bitCount_0f7a4 1 (some .int), Cond.constant RJ6 265 (1431655765), Cond.constant RJ6 266 (858993459), Cond.constant RJ6 267 (252645135), Cond.instanceMethod yX1_become, Cond.selects RX1 yX1_become yX1_become]
def wsL_law_r12 : List Cond := [Cond.code yX1_become cX1_become 3 none, Cond.methodLink RL 54 yX4_clear, Cond.instanceMethod yX4_clear, Cond.selects RX4 yX4_clear yX4_clear, Cond.code yX4_clear cX4_clear 4 (some .int), Cond.methodLink RX4 130 yX4_isSet, Cond.static yX4_isSet, Cond.code yX4_isSet cX4_isSet 1 (some .boolean), Cond.methodLink RX4 133 yX4_size, Cond.static yX4_size, Cond.code yX4_size cX4_size 3 (some .int), Cond.methodLink RL 55 yX3_put, Cond.instanceMethod yX3_put, Cond.selects RX3 yX3_put yX3_put, Cond.code yX3_put cX3_put 8 (some .int), Cond.instanceMethod yX1_holds, Cond.selects RX1 yX1_holds yX1_holds, Cond.code yX1_holds cX1_holds 2 (some .boolean), Cond.methodLink RL 59 yX4_put, Cond.instanceMethod yX4_put, Cond.selects RX4 yX4_put yX4_put, Cond.code yX4_put cX4_put 6 (some .int), Cond.methodLink RL 60 yX3_join, Cond.instanceMethod yX3_join]
def wsL_law_r13 : List Cond := [Cond.selects RX3 yX3_join yX3_join, Cond.code yX3_join cX3_join 8 (some .int), Cond.methodLink RX3 149 yX3_joined, Cond.static yX3_joined, Cond.code yX3_joined cX3_joined 3 (some .int), Cond.methodLink RL 64 yX4_join, Cond.instanceMethod yX4_join, Cond.selects RX4 yX4_join yX4_join, Cond.code yX4_join cX4_join 7 (some .int), Cond.methodLink RL 65 yX3_member, Cond.instanceMethod yX3_member, Cond.selects RX3 yX3_member yX3_member, Cond.code yX3_member cX3_member 6 (some .int), Cond.methodLink RL 68 yX4_member, Cond.instanceMethod yX4_member, Cond.selects RX4 yX4_member yX4_member, Cond.code yX4_member cX4_member 5 (some .int), Cond.methodLink RL 69 yX3_about, Cond.instanceMethod yX3_about, Cond.selects RX3 yX3_about yX3_about, Cond.code yX3_about cX3_about 4 (some .int), Cond.methodLink RL 72 yX4_about, Cond.instanceMethod yX4_about, Cond.selects RX4 yX4_about yX4_about]
def wsL_law_r14 : List Cond := [Cond.code yX4_about cX4_about 3 (some .int), Cond.methodLink RL 73 yX3_record, Cond.instanceMethod yX3_record, Cond.selects RX3 yX3_record yX3_record, Cond.code yX3_record cX3_record 9 (some .int), Cond.methodLink RX3 158 yX3_tableNumbered, Cond.instanceMethod yX3_tableNumbered, Cond.selects RX3 yX3_tableNumbered yX3_tableNumbered, Cond.code yX3_tableNumbered cX3_tableNumbered 2 (some (.object "RecordLabels$Table")), Cond.methodLink RX3 163 yX3_toCell, Cond.instanceMethod yX3_toCell, Cond.selects RX3 yX3_toCell yX3_toCell, Cond.code yX3_toCell cX3_toCell 5 (some .int), Cond.methodLink RX3 232 yX3_kindOfItem, Cond.instanceMethod yX3_kindOfItem, Cond.selects RX3 yX3_kindOfItem yX3_kindOfItem, Cond.code yX3_kindOfItem cX3_kindOfItem 3 (some (.object "RecordLabels$Kind")), Cond.methodLink RX3 167 yX3_putTogether, Cond.instanceMethod yX3_putTogether, Cond.selects RX3 yX3_putTogether yX3_putTogether, Cond.code yX3_putTogether cX3_putTogether 4 (some .int), Cond.methodLink RX3 193 yX3_wrongItem, Cond.instanceMethod yX3_wrongItem, Cond.selects RX3 yX3_wrongItem yX3_wrongItem]
def wsL_law_r15 : List Cond := [Cond.code yX3_wrongItem cX3_wrongItem 3 (some .int), Cond.methodLink RX3 236 yX3_highestOf, Cond.instanceMethod yX3_highestOf, Cond.selects RX3 yX3_highestOf yX3_highestOf, Cond.code yX3_highestOf cX3_highestOf 4 (some .int), Cond.constant RX3 240 (1000000), Cond.methodLink RX3 196 yX3_isFromTo, Cond.static yX3_isFromTo, Cond.code yX3_isFromTo cX3_isFromTo 3 (some .boolean), Cond.methodLink RL 77 yX4_record, Cond.instanceMethod yX4_record, Cond.selects RX4 yX4_record yX4_record, Cond.code yX4_record cX4_record 9 (some .int), Cond.fieldLink RX4 144 "RecordLabelsModel" "wrongs" "I", Cond.methodLink RX4 137 yX4_isTable, Cond.static yX4_isTable, Cond.code yX4_isTable cX4_isTable 1 (some .boolean), Cond.methodLink RX4 140 yX4_wrong, Cond.instanceMethod yX4_wrong, Cond.selects RX4 yX4_wrong yX4_wrong, Cond.code yX4_wrong cX4_wrong 5 (some .int), Cond.constant RX4 136 (1000000), Cond.methodLink RX4 147 yX4_take, Cond.instanceMethod yX4_take]
def wsL_law_r16 : List Cond := [Cond.selects RX4 yX4_take yX4_take, Cond.code yX4_take cX4_take 5 none, Cond.methodLink RL 78 yX3_lay, Cond.instanceMethod yX3_lay, Cond.selects RX3 yX3_lay yX3_lay, Cond.code yX3_lay cX3_lay 6 (some .int), Cond.instanceMethod yX2_hasRecord, Cond.selects RX2 yX2_hasRecord yX2_hasRecord, Cond.code yX2_hasRecord cX2_hasRecord 2 (some .boolean), Cond.instanceMethod yX2_hasItem, Cond.selects RX2 yX2_hasItem yX2_hasItem, Cond.code yX2_hasItem cX2_hasItem 2 (some .boolean), Cond.methodLink RL 81 yX4_lay, Cond.instanceMethod yX4_lay, Cond.selects RX4 yX4_lay yX4_lay, Cond.code yX4_lay cX4_lay 6 (some .int), Cond.methodLink RX4 154 yX4_isCell, Cond.instanceMethod yX4_isCell, Cond.selects RX4 yX4_isCell yX4_isCell, Cond.code yX4_isCell cX4_isCell 4 (some .boolean), Cond.methodLink RX4 151 yX4_items, Cond.static yX4_items, Cond.code yX4_items cX4_items 1 (some .int), Cond.methodLink RX4 157 yX4_kindOf]
def wsL_law_r17 : List Cond := [Cond.static yX4_kindOf, Cond.code yX4_kindOf cX4_kindOf 2 (some .int), Cond.methodLink RL 82 yX3_cell, Cond.instanceMethod yX3_cell, Cond.selects RX3 yX3_cell yX3_cell, Cond.code yX3_cell cX3_cell 5 (some .int), Cond.constant RX3 184 (-2000000000), Cond.methodLink RX3 185 yX3_fromCell, Cond.instanceMethod yX3_fromCell, Cond.selects RX3 yX3_fromCell yX3_fromCell, Cond.code yX3_fromCell cX3_fromCell 5 (some .int), Cond.methodLink RL 85 yX4_cell, Cond.instanceMethod yX4_cell, Cond.selects RX4 yX4_cell yX4_cell, Cond.code yX4_cell cX4_cell 4 (some .int), Cond.constant RX4 167 (-2000000000), Cond.methodLink RX4 163 yX4_toldOf, Cond.instanceMethod yX4_toldOf, Cond.selects RX4 yX4_toldOf yX4_toldOf, Cond.code yX4_toldOf cX4_toldOf 5 (some .int), Cond.methodLink RX4 160 yX4_codeNow, Cond.instanceMethod yX4_codeNow, Cond.selects RX4 yX4_codeNow yX4_codeNow, Cond.code yX4_codeNow cX4_codeNow 3 (some .int)]
def wsL_law_r18 : List Cond := [Cond.methodLink RL 86 yX3_back, Cond.instanceMethod yX3_back, Cond.selects RX3 yX3_back yX3_back, Cond.code yX3_back cX3_back 4 (some .int), Cond.methodLink RX3 188 yX3_draftOf, Cond.instanceMethod yX3_draftOf, Cond.selects RX3 yX3_draftOf yX3_draftOf, Cond.code yX3_draftOf cX3_draftOf 4 none, Cond.methodLink RL 89 yX4_back, Cond.instanceMethod yX4_back, Cond.selects RX4 yX4_back yX4_back, Cond.code yX4_back cX4_back 5 (some .int), Cond.methodLink RL 90 yX3_part, Cond.instanceMethod yX3_part, Cond.selects RX3 yX3_part yX3_part, Cond.code yX3_part cX3_part 2 (some .int), Cond.methodLink RL 93 yX4_part, Cond.instanceMethod yX4_part, Cond.selects RX4 yX4_part yX4_part, Cond.code yX4_part cX4_part 2 (some .int), Cond.methodLink RL 94 yX3_filter, Cond.instanceMethod yX3_filter, Cond.selects RX3 yX3_filter yX3_filter, Cond.code yX3_filter cX3_filter 10 (some .int)]
def wsL_law_r19 : List Cond := [Cond.methodLink RX3 200 yX3_keepFound, Cond.instanceMethod yX3_keepFound, Cond.selects RX3 yX3_keepFound yX3_keepFound, Cond.code yX3_keepFound cX3_keepFound 2 none, Cond.methodLink RL 97 yX4_filter, Cond.instanceMethod yX4_filter, Cond.selects RX4 yX4_filter yX4_filter, Cond.code yX4_filter cX4_filter 8 (some .int), Cond.fieldLink RX4 168 "RecordLabelsModel" "finds" "I", Cond.methodLink RL 98 yX3_found, Cond.instanceMethod yX3_found, Cond.selects RX3 yX3_found yX3_found, Cond.code yX3_found cX3_found 2 (some .int), Cond.methodLink RL 101 yX4_found, Cond.instanceMethod yX4_found, Cond.selects RX4 yX4_found yX4_found, Cond.code yX4_found cX4_found 2 (some .int), Cond.methodLink RL 102 yX3_sum, Cond.instanceMethod yX3_sum, Cond.selects RX3 yX3_sum yX3_sum, Cond.code yX3_sum cX3_sum 7 (some .long), Cond.constantLong RX3 204 (-1), Cond.methodLink RL 106 yX4_sum, Cond.instanceMethod yX4_sum]
def wsL_law_r20 : List Cond := [Cond.selects RX4 yX4_sum yX4_sum, Cond.code yX4_sum cX4_sum 7 (some .long), Cond.constantLong RX4 171 (-1), Cond.methodLink RL 107 yX3_count, Cond.instanceMethod yX3_count, Cond.selects RX3 yX3_count yX3_count, Cond.code yX3_count cX3_count 2 (some .int), Cond.methodLink RL 110 yX4_count, Cond.instanceMethod yX4_count, Cond.selects RX4 yX4_count yX4_count, Cond.code yX4_count cX4_count 2 (some .int)]
def wsL_law : List Cond := (wsL_law_r1 ++ (wsL_law_r2 ++ (wsL_law_r3 ++ (wsL_law_r4 ++ (wsL_law_r5 ++ (wsL_law_r6 ++ (wsL_law_r7 ++ (wsL_law_r8 ++ (wsL_law_r9 ++ (wsL_law_r10 ++ (wsL_law_r11 ++ (wsL_law_r12 ++ (wsL_law_r13 ++ (wsL_law_r14 ++ (wsL_law_r15 ++ (wsL_law_r16 ++ (wsL_law_r17 ++ (wsL_law_r18 ++ (wsL_law_r19 ++ wsL_law_r20))))))))))))))))))) ++ wsX30 ++ wsX40 ++ wsX00 ++ wsX20 ++ wsX10 ++ ([] : List Cond)

abbrev vwCl : List vw_C := [(RX0, TX0, 7), (RX1, TX1, 2), (RX2, TX2, 5), (RX3, TX3, 14), (RX4, TX4, 19)]
